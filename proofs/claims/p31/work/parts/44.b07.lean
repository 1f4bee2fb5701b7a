/-! CONTRACTS b, printed by a program -/
/-! b543 X10_readGlyph -/
def as_b543 : List ev_V := [(2, 83, 0)]
def E_b543 : e2_E := [(2147483648, 2147583648, 0, 0), (2147483648, 2147483656, 1, 0), (2147483648, 2147485249, 2, 0)]
def bn3483 : e2_Q7 := (bn645, bn2967)
def bn3484 : e2_Q8 := (bn2394, bn3483)
noncomputable def f_b543 : ev_H := (bn3484 : e2_Q8)
def bn3485 : e2_Q7 := (bn645, bn2970)
def bn3486 : e2_Q8 := (bn2508, bn3485)
noncomputable def q_b543_0 : ev_H := (bn3486 : e2_Q8)
noncomputable def rs_b543 : e2_Rs := [((9, 0, 0), q_b543_0)]
noncomputable def s_b543 : e2_Sm := (196, as_b543, E_b543, f_b543, rs_b543)
noncomputable def S_b543 : List e2_Sm := [s_b147, s_b179, s_b233, s_b254, s_b257, s_b458, s_b490]
noncomputable def I_b543 : List e2_In := [(179, 3, e2x_179)]
set_option maxRecDepth 1000000 in
theorem ck_b543 : e2_run (e2_cal S_b543 I_b543 4000 1) (e2_fin rs_b543) e2x_196 (fun _ => false) (fun _ _ _ _ _ => false) 4000 (e2_seek e2x_196 0) (e2_al 2 as_b543) [] E_b543 f_b543 = true := by decide +kernel
set_option maxRecDepth 1000000 in
theorem co_b543 : e2_okSB E_b543.length as_b543 f_b543 rs_b543 = true := by decide +kernel
theorem cs_b543 (hen : en_ok) (l : Launch) (hh : e2_hand_b l) : e2_smOk l 62 s_b543 := e2_con0 (H := 60) (n := 1) (C := evd_196) (S := S_b543) (I := I_b543) (fuel := 4000) [] hen ei_196 (e2_fa (hh _ hm_b147) (e2_fa ((cs_b179 hen l).mono (by decide)) (e2_fa ((cs_b233 hen l).mono (by decide)) (e2_fa ((cs_b254 hen l).mono (by decide)) (e2_fa ((cs_b257 hen l).mono (by decide)) (e2_fa ((cs_b458 hen l).mono (by decide)) (e2_fa ((cs_b490 hen l).mono (by decide)) e2_fz))))))) (e2_fa ein_179 e2_fz) (by decide) co_b543 ex2_196 ck_b543
/-! b544 X10_readGlyph -/
def as_b544 : List ev_V := [(2, 83, 0)]
def E_b544 : e2_E := [(2147483648, 2147583648, 0, 0), (2147483648, 2147483656, 1, 0), (2147483648, 2147485249, 2, 0)]
def bn3487 : e2_Q7 := (bn645, bn2976)
def bn3488 : e2_Q8 := (bn2394, bn3487)
noncomputable def f_b544 : ev_H := (bn3488 : e2_Q8)
def bn3489 : e2_Q7 := (bn645, bn2979)
def bn3490 : e2_Q8 := (bn2508, bn3489)
noncomputable def q_b544_0 : ev_H := (bn3490 : e2_Q8)
noncomputable def rs_b544 : e2_Rs := [((9, 0, 0), q_b544_0)]
noncomputable def s_b544 : e2_Sm := (196, as_b544, E_b544, f_b544, rs_b544)
noncomputable def S_b544 : List e2_Sm := [s_b155, s_b187, s_b245, s_b261, s_b264, s_b460, s_b492]
noncomputable def I_b544 : List e2_In := [(179, 3, e2x_179)]
set_option maxRecDepth 1000000 in
theorem ck_b544 : e2_run (e2_cal S_b544 I_b544 4000 1) (e2_fin rs_b544) e2x_196 (fun _ => false) (fun _ _ _ _ _ => false) 4000 (e2_seek e2x_196 0) (e2_al 2 as_b544) [] E_b544 f_b544 = true := by decide +kernel
set_option maxRecDepth 1000000 in
theorem co_b544 : e2_okSB E_b544.length as_b544 f_b544 rs_b544 = true := by decide +kernel
theorem cs_b544 (hen : en_ok) (l : Launch) (hh : e2_hand_b l) : e2_smOk l 62 s_b544 := e2_con0 (H := 60) (n := 1) (C := evd_196) (S := S_b544) (I := I_b544) (fuel := 4000) [] hen ei_196 (e2_fa (hh _ hm_b155) (e2_fa ((cs_b187 hen l).mono (by decide)) (e2_fa ((cs_b245 hen l).mono (by decide)) (e2_fa ((cs_b261 hen l).mono (by decide)) (e2_fa ((cs_b264 hen l).mono (by decide)) (e2_fa ((cs_b460 hen l).mono (by decide)) (e2_fa ((cs_b492 hen l).mono (by decide)) e2_fz))))))) (e2_fa ein_179 e2_fz) (by decide) co_b544 ex2_196 ck_b544
/-! b545 X10_readGlyph -/
def as_b545 : List ev_V := [(2, 83, 0)]
def E_b545 : e2_E := [(2147483648, 2147583648, 0, 0), (2147483648, 2147483656, 1, 0), (2147483648, 2147485249, 2, 0)]
def bn3491 : e2_Q7 := (bn645, bn2985)
def bn3492 : e2_Q8 := (bn2394, bn3491)
noncomputable def f_b545 : ev_H := (bn3492 : e2_Q8)
def bn3493 : e2_Q7 := (bn645, bn2988)
def bn3494 : e2_Q8 := (bn2508, bn3493)
noncomputable def q_b545_0 : ev_H := (bn3494 : e2_Q8)
noncomputable def rs_b545 : e2_Rs := [((9, 0, 0), q_b545_0)]
noncomputable def s_b545 : e2_Sm := (196, as_b545, E_b545, f_b545, rs_b545)
noncomputable def S_b545 : List e2_Sm := [s_b148, s_b185, s_b234, s_b268, s_b271, s_b462, s_b494]
noncomputable def I_b545 : List e2_In := [(179, 3, e2x_179)]
set_option maxRecDepth 1000000 in
theorem ck_b545 : e2_run (e2_cal S_b545 I_b545 4000 1) (e2_fin rs_b545) e2x_196 (fun _ => false) (fun _ _ _ _ _ => false) 4000 (e2_seek e2x_196 0) (e2_al 2 as_b545) [] E_b545 f_b545 = true := by decide +kernel
set_option maxRecDepth 1000000 in
theorem co_b545 : e2_okSB E_b545.length as_b545 f_b545 rs_b545 = true := by decide +kernel
theorem cs_b545 (hen : en_ok) (l : Launch) (hh : e2_hand_b l) : e2_smOk l 62 s_b545 := e2_con0 (H := 60) (n := 1) (C := evd_196) (S := S_b545) (I := I_b545) (fuel := 4000) [] hen ei_196 (e2_fa (hh _ hm_b148) (e2_fa ((cs_b185 hen l).mono (by decide)) (e2_fa ((cs_b234 hen l).mono (by decide)) (e2_fa ((cs_b268 hen l).mono (by decide)) (e2_fa ((cs_b271 hen l).mono (by decide)) (e2_fa ((cs_b462 hen l).mono (by decide)) (e2_fa ((cs_b494 hen l).mono (by decide)) e2_fz))))))) (e2_fa ein_179 e2_fz) (by decide) co_b545 ex2_196 ck_b545
/-! b546 X10_readGlyph -/
def as_b546 : List ev_V := [(2, 83, 0)]
def E_b546 : e2_E := [(2147483648, 2147583648, 0, 0), (2147483648, 2147483656, 1, 0), (2147483648, 2147485249, 2, 0)]
def bn3495 : e2_Q7 := (bn645, bn2994)
def bn3496 : e2_Q8 := (bn2394, bn3495)
noncomputable def f_b546 : ev_H := (bn3496 : e2_Q8)
def bn3497 : e2_Q7 := (bn645, bn2997)
def bn3498 : e2_Q8 := (bn2508, bn3497)
noncomputable def q_b546_0 : ev_H := (bn3498 : e2_Q8)
noncomputable def rs_b546 : e2_Rs := [((9, 0, 0), q_b546_0)]
noncomputable def s_b546 : e2_Sm := (196, as_b546, E_b546, f_b546, rs_b546)
noncomputable def S_b546 : List e2_Sm := [s_b146, s_b178, s_b232, s_b275, s_b278, s_b464, s_b496]
noncomputable def I_b546 : List e2_In := [(179, 3, e2x_179)]
set_option maxRecDepth 1000000 in
theorem ck_b546 : e2_run (e2_cal S_b546 I_b546 4000 1) (e2_fin rs_b546) e2x_196 (fun _ => false) (fun _ _ _ _ _ => false) 4000 (e2_seek e2x_196 0) (e2_al 2 as_b546) [] E_b546 f_b546 = true := by decide +kernel
set_option maxRecDepth 1000000 in
theorem co_b546 : e2_okSB E_b546.length as_b546 f_b546 rs_b546 = true := by decide +kernel
theorem cs_b546 (hen : en_ok) (l : Launch) (hh : e2_hand_b l) : e2_smOk l 62 s_b546 := e2_con0 (H := 60) (n := 1) (C := evd_196) (S := S_b546) (I := I_b546) (fuel := 4000) [] hen ei_196 (e2_fa (hh _ hm_b146) (e2_fa ((cs_b178 hen l).mono (by decide)) (e2_fa ((cs_b232 hen l).mono (by decide)) (e2_fa ((cs_b275 hen l).mono (by decide)) (e2_fa ((cs_b278 hen l).mono (by decide)) (e2_fa ((cs_b464 hen l).mono (by decide)) (e2_fa ((cs_b496 hen l).mono (by decide)) e2_fz))))))) (e2_fa ein_179 e2_fz) (by decide) co_b546 ex2_196 ck_b546
/-! b547 X10_readGlyph -/
def as_b547 : List ev_V := [(2, 83, 0)]
def E_b547 : e2_E := [(2147483648, 2147583648, 0, 0), (2147483648, 2147483656, 1, 0), (2147483648, 2147485249, 2, 0)]
def bn3499 : e2_Q7 := (bn2417, bn3021)
def bn3500 : e2_Q8 := (bn2394, bn3499)
noncomputable def f_b547 : ev_H := (bn3500 : e2_Q8)
def bn3501 : e2_Q7 := (bn2531, bn3024)
def bn3502 : e2_Q8 := (bn2508, bn3501)
noncomputable def q_b547_0 : ev_H := (bn3502 : e2_Q8)
def bn3503 : e2_Q7 := (bn2417, bn3027)
def bn3504 : e2_Q8 := (bn2508, bn3503)
noncomputable def q_b547_1 : ev_H := (bn3504 : e2_Q8)
def bn3505 : e2_Q7 := (bn2531, bn3030)
def bn3506 : e2_Q8 := (bn2508, bn3505)
noncomputable def q_b547_2 : ev_H := (bn3506 : e2_Q8)
def bn3507 : e2_Q7 := (bn2531, bn3033)
def bn3508 : e2_Q8 := (bn2508, bn3507)
noncomputable def q_b547_3 : ev_H := (bn3508 : e2_Q8)
def bn3509 : e2_Q7 := (bn2531, bn3036)
def bn3510 : e2_Q8 := (bn2508, bn3509)
noncomputable def q_b547_4 : ev_H := (bn3510 : e2_Q8)
def bn3511 : e2_Q7 := (bn2531, bn3039)
def bn3512 : e2_Q8 := (bn2508, bn3511)
noncomputable def q_b547_5 : ev_H := (bn3512 : e2_Q8)
def bn3513 : e2_Q7 := (bn2531, bn3042)
def bn3514 : e2_Q8 := (bn2508, bn3513)
noncomputable def q_b547_6 : ev_H := (bn3514 : e2_Q8)
def bn3515 : e2_Q7 := (bn2531, bn3045)
def bn3516 : e2_Q8 := (bn2508, bn3515)
noncomputable def q_b547_7 : ev_H := (bn3516 : e2_Q8)
def bn3517 : e2_Q7 := (bn2531, bn2970)
def bn3518 : e2_Q8 := (bn2508, bn3517)
noncomputable def q_b547_8 : ev_H := (bn3518 : e2_Q8)
def bn3519 : e2_Q7 := (bn2531, bn2997)
def bn3520 : e2_Q8 := (bn2508, bn3519)
noncomputable def q_b547_9 : ev_H := (bn3520 : e2_Q8)
def bn3521 : e2_Q7 := (bn2417, bn3052)
def bn3522 : e2_Q8 := (bn2508, bn3521)
noncomputable def q_b547_10 : ev_H := (bn3522 : e2_Q8)
noncomputable def rs_b547 : e2_Rs := [((9, 0, 0), q_b547_0), ((9, 0, 0), q_b547_1), ((9, 0, 0), q_b547_2), ((9, 0, 0), q_b547_3), ((9, 0, 0), q_b547_4), ((9, 0, 0), q_b547_5), ((9, 0, 0), q_b547_6), ((9, 0, 0), q_b547_7), ((9, 0, 0), q_b547_8), ((9, 0, 0), q_b547_9), ((9, 0, 0), q_b547_10)]
noncomputable def s_b547 : e2_Sm := (196, as_b547, E_b547, f_b547, rs_b547)
noncomputable def S_b547 : List e2_Sm := [s_b149, s_b150, s_b151, s_b152, s_b153, s_b154, s_b181, s_b183, s_b184, s_b186, s_b188, s_b190, s_b191, s_b192, s_b232, s_b233, s_b235, s_b236, s_b237, s_b238, s_b239, s_b240, s_b241, s_b242, s_b243, s_b244, s_b257, s_b278, s_b282, s_b285, s_b286, s_b287, s_b288, s_b289, s_b290, s_b291, s_b292, s_b293, s_b294, s_b295, s_b337, s_b345, s_b347, s_b466, s_b490, s_b496, s_b498, s_b499, s_b500, s_b501, s_b502, s_b503, s_b504]
noncomputable def I_b547 : List e2_In := [(179, 3, e2x_179)]
set_option maxRecDepth 1000000 in
theorem ck_b547 : e2_run (e2_cal S_b547 I_b547 4000 1) (e2_fin rs_b547) e2x_196 (fun _ => false) (fun _ _ _ _ _ => false) 4000 (e2_seek e2x_196 0) (e2_al 2 as_b547) [] E_b547 f_b547 = true := by decide +kernel
set_option maxRecDepth 1000000 in
theorem co_b547 : e2_okSB E_b547.length as_b547 f_b547 rs_b547 = true := by decide +kernel
theorem cs_b547 (hen : en_ok) (l : Launch) (hh : e2_hand_b l) : e2_smOk l 62 s_b547 := e2_con0 (H := 60) (n := 1) (C := evd_196) (S := S_b547) (I := I_b547) (fuel := 4000) [] hen ei_196 (e2_fa (hh _ hm_b149) (e2_fa (hh _ hm_b150) (e2_fa (hh _ hm_b151) (e2_fa (hh _ hm_b152) (e2_fa (hh _ hm_b153) (e2_fa (hh _ hm_b154) (e2_fa ((cs_b181 hen l).mono (by decide)) (e2_fa ((cs_b183 hen l).mono (by decide)) (e2_fa ((cs_b184 hen l).mono (by decide)) (e2_fa ((cs_b186 hen l).mono (by decide)) (e2_fa ((cs_b188 hen l).mono (by decide)) (e2_fa ((cs_b190 hen l).mono (by decide)) (e2_fa ((cs_b191 hen l).mono (by decide)) (e2_fa ((cs_b192 hen l).mono (by decide)) (e2_fa ((cs_b232 hen l).mono (by decide)) (e2_fa ((cs_b233 hen l).mono (by decide)) (e2_fa ((cs_b235 hen l).mono (by decide)) (e2_fa ((cs_b236 hen l).mono (by decide)) (e2_fa ((cs_b237 hen l).mono (by decide)) (e2_fa ((cs_b238 hen l).mono (by decide)) (e2_fa ((cs_b239 hen l).mono (by decide)) (e2_fa ((cs_b240 hen l).mono (by decide)) (e2_fa ((cs_b241 hen l).mono (by decide)) (e2_fa ((cs_b242 hen l).mono (by decide)) (e2_fa ((cs_b243 hen l).mono (by decide)) (e2_fa ((cs_b244 hen l).mono (by decide)) (e2_fa ((cs_b257 hen l).mono (by decide)) (e2_fa ((cs_b278 hen l).mono (by decide)) (e2_fa ((cs_b282 hen l).mono (by decide)) (e2_fa ((cs_b285 hen l).mono (by decide)) (e2_fa ((cs_b286 hen l).mono (by decide)) (e2_fa ((cs_b287 hen l).mono (by decide)) (e2_fa ((cs_b288 hen l).mono (by decide)) (e2_fa ((cs_b289 hen l).mono (by decide)) (e2_fa ((cs_b290 hen l).mono (by decide)) (e2_fa ((cs_b291 hen l).mono (by decide)) (e2_fa ((cs_b292 hen l).mono (by decide)) (e2_fa ((cs_b293 hen l).mono (by decide)) (e2_fa ((cs_b294 hen l).mono (by decide)) (e2_fa ((cs_b295 hen l).mono (by decide)) (e2_fa ((cs_b337 hen l).mono (by decide)) (e2_fa ((cs_b345 hen l).mono (by decide)) (e2_fa ((cs_b347 hen l).mono (by decide)) (e2_fa ((cs_b466 hen l).mono (by decide)) (e2_fa ((cs_b490 hen l).mono (by decide)) (e2_fa ((cs_b496 hen l).mono (by decide)) (e2_fa ((cs_b498 hen l).mono (by decide)) (e2_fa ((cs_b499 hen l).mono (by decide)) (e2_fa ((cs_b500 hen l).mono (by decide)) (e2_fa ((cs_b501 hen l).mono (by decide)) (e2_fa ((cs_b502 hen l).mono (by decide)) (e2_fa ((cs_b503 hen l).mono (by decide)) (e2_fa ((cs_b504 hen l).mono (by decide)) e2_fz))))))))))))))))))))))))))))))))))))))))))))))))))))) (e2_fa ein_179 e2_fz) (by decide) co_b547 ex2_196 ck_b547
/-! b548 X10_readLine -/
def as_b548 : List ev_V := [(2, 83, 0)]
def E_b548 : e2_E := [(2147483648, 2147583648, 0, 0), (2147483648, 2147483656, 1, 0), (2147483648, 2147485249, 2, 0)]
def bn3523 : e2_Q7 := (bn2482, bn3056)
def bn3524 : e2_Q8 := (bn2476, bn3523)
noncomputable def f_b548 : ev_H := (bn3524 : e2_Q8)
noncomputable def q_b548_0 : ev_H := (bn2576 : e2_Q8)
noncomputable def q_b548_1 : ev_H := (bn2578 : e2_Q8)
noncomputable def q_b548_2 : ev_H := (bn2580 : e2_Q8)
noncomputable def q_b548_3 : ev_H := (bn2582 : e2_Q8)
noncomputable def q_b548_4 : ev_H := (bn2484 : e2_Q8)
noncomputable def q_b548_5 : ev_H := (bn2486 : e2_Q8)
noncomputable def q_b548_6 : ev_H := (bn2488 : e2_Q8)
noncomputable def q_b548_7 : ev_H := (bn2490 : e2_Q8)
noncomputable def q_b548_8 : ev_H := (bn2492 : e2_Q8)
noncomputable def q_b548_9 : ev_H := (bn2584 : e2_Q8)
def bn3525 : e2_Q7 := (bn2482, bn3059)
def bn3526 : e2_Q8 := (bn2476, bn3525)
noncomputable def q_b548_10 : ev_H := (bn3526 : e2_Q8)
def bn3527 : e2_Q7 := (bn2482, bn3062)
def bn3528 : e2_Q8 := (bn2590, bn3527)
noncomputable def q_b548_11 : ev_H := (bn3528 : e2_Q8)
def bn3529 : e2_Q7 := (bn2482, bn3065)
def bn3530 : e2_Q8 := (bn2590, bn3529)
noncomputable def q_b548_12 : ev_H := (bn3530 : e2_Q8)
def bn3531 : e2_Q7 := (bn2482, bn3068)
def bn3532 : e2_Q8 := (bn2590, bn3531)
noncomputable def q_b548_13 : ev_H := (bn3532 : e2_Q8)
def bn3533 : e2_Q8 := (bn2590, bn3525)
noncomputable def q_b548_14 : ev_H := (bn3533 : e2_Q8)
def bn3534 : e2_Q7 := (bn2596, bn3072)
def bn3535 : e2_Q8 := (bn2590, bn3534)
noncomputable def q_b548_15 : ev_H := (bn3535 : e2_Q8)
def bn3536 : e2_Q7 := (bn2596, bn3075)
def bn3537 : e2_Q8 := (bn2590, bn3536)
noncomputable def q_b548_16 : ev_H := (bn3537 : e2_Q8)
def bn3538 : e2_Q7 := (bn2596, bn3078)
def bn3539 : e2_Q8 := (bn2590, bn3538)
noncomputable def q_b548_17 : ev_H := (bn3539 : e2_Q8)
def bn3540 : e2_Q7 := (bn2596, bn3081)
def bn3541 : e2_Q8 := (bn2590, bn3540)
noncomputable def q_b548_18 : ev_H := (bn3541 : e2_Q8)
def bn3542 : e2_Q7 := (bn2596, bn3084)
def bn3543 : e2_Q8 := (bn2590, bn3542)
noncomputable def q_b548_19 : ev_H := (bn3543 : e2_Q8)
def bn3544 : e2_Q7 := (bn2482, bn3087)
def bn3545 : e2_Q8 := (bn2590, bn3544)
noncomputable def q_b548_20 : ev_H := (bn3545 : e2_Q8)
def bn3546 : e2_Q7 := (bn2482, bn3090)
def bn3547 : e2_Q8 := (bn2590, bn3546)
noncomputable def q_b548_21 : ev_H := (bn3547 : e2_Q8)
noncomputable def rs_b548 : e2_Rs := [((9, 0, 0), q_b548_0), ((9, 0, 0), q_b548_1), ((9, 0, 0), q_b548_2), ((9, 0, 0), q_b548_3), ((9, 0, 0), q_b548_4), ((9, 0, 0), q_b548_5), ((9, 0, 0), q_b548_6), ((9, 0, 0), q_b548_7), ((9, 0, 0), q_b548_8), ((9, 0, 0), q_b548_9), ((9, 0, 0), q_b548_10), ((9, 0, 0), q_b548_11), ((9, 0, 0), q_b548_12), ((9, 0, 0), q_b548_13), ((9, 0, 0), q_b548_14), ((9, 0, 0), q_b548_15), ((9, 0, 0), q_b548_16), ((9, 0, 0), q_b548_17), ((9, 0, 0), q_b548_18), ((9, 0, 0), q_b548_19), ((9, 0, 0), q_b548_20), ((9, 0, 0), q_b548_21)]
noncomputable def s_b548 : e2_Sm := (187, as_b548, E_b548, f_b548, rs_b548)
noncomputable def S_b548 : List e2_Sm := [s_b173, s_b178, s_b179, s_b180, s_b181, s_b182, s_b183, s_b184, s_b185, s_b186, s_b187, s_b188, s_b189, s_b190, s_b191, s_b192, s_b193, s_b194, s_b195, s_b196, s_b197, s_b198, s_b199, s_b217, s_b218, s_b219, s_b220, s_b221, s_b249, s_b250, s_b251, s_b252, s_b253, s_b332, s_b333, s_b334, s_b335, s_b336, s_b338, s_b341, s_b344, s_b346, s_b348, s_b468, s_b469, s_b470, s_b471, s_b474, s_b543, s_b544, s_b545, s_b546, s_b547]
noncomputable def I_b548 : List e2_In := [(170, 2, e2x_170), (173, 3, e2x_173), (174, 1, e2x_174), (178, 2, e2x_178), (179, 3, e2x_179), (180, 1, e2x_180), (186, 1, e2x_186)]
set_option maxRecDepth 1000000 in
theorem ck_b548 : e2_run (e2_cal S_b548 I_b548 4000 2) (e2_fin rs_b548) e2x_187 (fun _ => false) (fun _ _ _ _ _ => false) 4000 (e2_seek e2x_187 0) (e2_al 3 as_b548) [] E_b548 f_b548 = true := by decide +kernel
set_option maxRecDepth 1000000 in
theorem co_b548 : e2_okSB E_b548.length as_b548 f_b548 rs_b548 = true := by decide +kernel
theorem cs_b548 (hen : en_ok) (l : Launch) (hh : e2_hand_b l) : e2_smOk l 65 s_b548 := e2_con0 (H := 62) (n := 2) (C := evd_187) (S := S_b548) (I := I_b548) (fuel := 4000) [] hen ei_187 (e2_fa ((cs_b173 hen l).mono (by decide)) (e2_fa ((cs_b178 hen l).mono (by decide)) (e2_fa ((cs_b179 hen l).mono (by decide)) (e2_fa ((cs_b180 hen l).mono (by decide)) (e2_fa ((cs_b181 hen l).mono (by decide)) (e2_fa ((cs_b182 hen l).mono (by decide)) (e2_fa ((cs_b183 hen l).mono (by decide)) (e2_fa ((cs_b184 hen l).mono (by decide)) (e2_fa ((cs_b185 hen l).mono (by decide)) (e2_fa ((cs_b186 hen l).mono (by decide)) (e2_fa ((cs_b187 hen l).mono (by decide)) (e2_fa ((cs_b188 hen l).mono (by decide)) (e2_fa ((cs_b189 hen l).mono (by decide)) (e2_fa ((cs_b190 hen l).mono (by decide)) (e2_fa ((cs_b191 hen l).mono (by decide)) (e2_fa ((cs_b192 hen l).mono (by decide)) (e2_fa ((cs_b193 hen l).mono (by decide)) (e2_fa ((cs_b194 hen l).mono (by decide)) (e2_fa ((cs_b195 hen l).mono (by decide)) (e2_fa ((cs_b196 hen l).mono (by decide)) (e2_fa ((cs_b197 hen l).mono (by decide)) (e2_fa ((cs_b198 hen l).mono (by decide)) (e2_fa ((cs_b199 hen l).mono (by decide)) (e2_fa ((cs_b217 hen l).mono (by decide)) (e2_fa ((cs_b218 hen l).mono (by decide)) (e2_fa ((cs_b219 hen l).mono (by decide)) (e2_fa ((cs_b220 hen l).mono (by decide)) (e2_fa ((cs_b221 hen l).mono (by decide)) (e2_fa ((cs_b249 hen l).mono (by decide)) (e2_fa ((cs_b250 hen l).mono (by decide)) (e2_fa ((cs_b251 hen l).mono (by decide)) (e2_fa ((cs_b252 hen l).mono (by decide)) (e2_fa ((cs_b253 hen l).mono (by decide)) (e2_fa ((cs_b332 hen l hh).mono (by decide)) (e2_fa ((cs_b333 hen l hh).mono (by decide)) (e2_fa ((cs_b334 hen l hh).mono (by decide)) (e2_fa ((cs_b335 hen l hh).mono (by decide)) (e2_fa ((cs_b336 hen l hh).mono (by decide)) (e2_fa ((cs_b338 hen l).mono (by decide)) (e2_fa ((cs_b341 hen l).mono (by decide)) (e2_fa ((cs_b344 hen l).mono (by decide)) (e2_fa ((cs_b346 hen l).mono (by decide)) (e2_fa ((cs_b348 hen l).mono (by decide)) (e2_fa ((cs_b468 hen l).mono (by decide)) (e2_fa ((cs_b469 hen l).mono (by decide)) (e2_fa ((cs_b470 hen l).mono (by decide)) (e2_fa ((cs_b471 hen l).mono (by decide)) (e2_fa ((cs_b474 hen l).mono (by decide)) (e2_fa (cs_b543 hen l hh) (e2_fa (cs_b544 hen l hh) (e2_fa (cs_b545 hen l hh) (e2_fa (cs_b546 hen l hh) (e2_fa (cs_b547 hen l hh) e2_fz))))))))))))))))))))))))))))))))))))))))))))))))))))) (e2_fa ein_170 (e2_fa ein_173 (e2_fa ein_174 (e2_fa ein_178 (e2_fa ein_179 (e2_fa ein_180 (e2_fa ein_186 e2_fz))))))) (by decide) co_b548 ex2_187 ck_b548
/-! b549 X10_readLine -/
def as_b549 : List ev_V := [(2, 83, 0)]
def E_b549 : e2_E := [(2147483648, 2147583648, 0, 0), (2147483648, 2147483656, 1, 0), (2147483648, 2147485249, 2, 0)]
def bn3548 : e2_Q6 := (bn2645, bn3055)
def bn3549 : e2_Q7 := (bn2644, bn3548)
def bn3550 : e2_Q8 := (bn2642, bn3549)
noncomputable def f_b549 : ev_H := (bn3550 : e2_Q8)
noncomputable def q_b549_0 : ev_H := (bn2653 : e2_Q8)
noncomputable def q_b549_1 : ev_H := (bn2657 : e2_Q8)
noncomputable def q_b549_2 : ev_H := (bn2661 : e2_Q8)
noncomputable def q_b549_3 : ev_H := (bn2665 : e2_Q8)
noncomputable def q_b549_4 : ev_H := (bn2669 : e2_Q8)
noncomputable def q_b549_5 : ev_H := (bn2673 : e2_Q8)
noncomputable def q_b549_6 : ev_H := (bn2677 : e2_Q8)
noncomputable def q_b549_7 : ev_H := (bn2681 : e2_Q8)
noncomputable def q_b549_8 : ev_H := (bn2685 : e2_Q8)
noncomputable def q_b549_9 : ev_H := (bn2689 : e2_Q8)
def bn3551 : e2_Q6 := (bn2690, bn3055)
def bn3552 : e2_Q7 := (bn2644, bn3551)
def bn3553 : e2_Q8 := (bn2642, bn3552)
noncomputable def q_b549_10 : ev_H := (bn3553 : e2_Q8)
noncomputable def rs_b549 : e2_Rs := [((9, 0, 0), q_b549_0), ((9, 0, 0), q_b549_1), ((9, 0, 0), q_b549_2), ((9, 0, 0), q_b549_3), ((9, 0, 0), q_b549_4), ((9, 0, 0), q_b549_5), ((9, 0, 0), q_b549_6), ((9, 0, 0), q_b549_7), ((9, 0, 0), q_b549_8), ((9, 0, 0), q_b549_9), ((9, 0, 0), q_b549_10)]
noncomputable def s_b549 : e2_Sm := (187, as_b549, E_b549, f_b549, rs_b549)
noncomputable def S_b549 : List e2_Sm := [s_b173, s_b178, s_b179, s_b180, s_b181, s_b182, s_b183, s_b184, s_b185, s_b186, s_b187, s_b188, s_b189, s_b190, s_b191, s_b193, s_b194, s_b195, s_b196, s_b197, s_b198, s_b199, s_b217, s_b218, s_b219, s_b220, s_b221, s_b249, s_b250, s_b251, s_b252, s_b253, s_b332, s_b333, s_b334, s_b335, s_b336, s_b338, s_b341, s_b344, s_b346, s_b348, s_b477, s_b479, s_b481, s_b483, s_b487]
noncomputable def I_b549 : List e2_In := [(170, 2, e2x_170), (173, 3, e2x_173), (174, 1, e2x_174), (178, 2, e2x_178), (179, 3, e2x_179), (180, 1, e2x_180), (186, 1, e2x_186)]
set_option maxRecDepth 1000000 in
theorem ck_b549 : e2_run (e2_cal S_b549 I_b549 4000 2) (e2_fin rs_b549) e2x_187 (fun _ => false) (fun _ _ _ _ _ => false) 4000 (e2_seek e2x_187 0) (e2_al 3 as_b549) [] E_b549 f_b549 = true := by decide +kernel
set_option maxRecDepth 1000000 in
theorem co_b549 : e2_okSB E_b549.length as_b549 f_b549 rs_b549 = true := by decide +kernel
theorem cs_b549 (hen : en_ok) (l : Launch) (hh : e2_hand_b l) : e2_smOk l 64 s_b549 := e2_con0 (H := 61) (n := 2) (C := evd_187) (S := S_b549) (I := I_b549) (fuel := 4000) [] hen ei_187 (e2_fa ((cs_b173 hen l).mono (by decide)) (e2_fa ((cs_b178 hen l).mono (by decide)) (e2_fa ((cs_b179 hen l).mono (by decide)) (e2_fa ((cs_b180 hen l).mono (by decide)) (e2_fa ((cs_b181 hen l).mono (by decide)) (e2_fa ((cs_b182 hen l).mono (by decide)) (e2_fa ((cs_b183 hen l).mono (by decide)) (e2_fa ((cs_b184 hen l).mono (by decide)) (e2_fa ((cs_b185 hen l).mono (by decide)) (e2_fa ((cs_b186 hen l).mono (by decide)) (e2_fa ((cs_b187 hen l).mono (by decide)) (e2_fa ((cs_b188 hen l).mono (by decide)) (e2_fa ((cs_b189 hen l).mono (by decide)) (e2_fa ((cs_b190 hen l).mono (by decide)) (e2_fa ((cs_b191 hen l).mono (by decide)) (e2_fa ((cs_b193 hen l).mono (by decide)) (e2_fa ((cs_b194 hen l).mono (by decide)) (e2_fa ((cs_b195 hen l).mono (by decide)) (e2_fa ((cs_b196 hen l).mono (by decide)) (e2_fa ((cs_b197 hen l).mono (by decide)) (e2_fa ((cs_b198 hen l).mono (by decide)) (e2_fa ((cs_b199 hen l).mono (by decide)) (e2_fa ((cs_b217 hen l).mono (by decide)) (e2_fa ((cs_b218 hen l).mono (by decide)) (e2_fa ((cs_b219 hen l).mono (by decide)) (e2_fa ((cs_b220 hen l).mono (by decide)) (e2_fa ((cs_b221 hen l).mono (by decide)) (e2_fa ((cs_b249 hen l).mono (by decide)) (e2_fa ((cs_b250 hen l).mono (by decide)) (e2_fa ((cs_b251 hen l).mono (by decide)) (e2_fa ((cs_b252 hen l).mono (by decide)) (e2_fa ((cs_b253 hen l).mono (by decide)) (e2_fa (cs_b332 hen l hh) (e2_fa (cs_b333 hen l hh) (e2_fa (cs_b334 hen l hh) (e2_fa (cs_b335 hen l hh) (e2_fa (cs_b336 hen l hh) (e2_fa ((cs_b338 hen l).mono (by decide)) (e2_fa ((cs_b341 hen l).mono (by decide)) (e2_fa ((cs_b344 hen l).mono (by decide)) (e2_fa ((cs_b346 hen l).mono (by decide)) (e2_fa ((cs_b348 hen l).mono (by decide)) (e2_fa ((cs_b477 hen l).mono (by decide)) (e2_fa ((cs_b479 hen l).mono (by decide)) (e2_fa ((cs_b481 hen l).mono (by decide)) (e2_fa ((cs_b483 hen l).mono (by decide)) (e2_fa ((cs_b487 hen l).mono (by decide)) e2_fz))))))))))))))))))))))))))))))))))))))))))))))) (e2_fa ein_170 (e2_fa ein_173 (e2_fa ein_174 (e2_fa ein_178 (e2_fa ein_179 (e2_fa ein_180 (e2_fa ein_186 e2_fz))))))) (by decide) co_b549 ex2_187 ck_b549
/-! b550 X10_mown -/
def as_b550 : List ev_V := [(2, 83, 0)]
def E_b550 : e2_E := [(2147483648, 2147583648, 0, 0), (2147483648, 2147483656, 1, 0)]
def bn3554 : e2_Q6 := (bn700, bn338)
def bn3555 : e2_Q6 := (bn93, bn1284)
def bn3556 : e2_Q7 := (bn3554, bn3555)
def bn3557 : e2_Q5 := (bn722, bn365)
def bn3558 : e2_Q6 := (bn3557, bn250)
def bn3559 : e2_Q7 := (bn736, bn3558)
def bn3560 : e2_Q8 := (bn3556, bn3559)
noncomputable def f_b550 : ev_H := (bn3560 : e2_Q8)
noncomputable def q_b550_0 : ev_H := (bn3560 : e2_Q8)
noncomputable def rs_b550 : e2_Rs := [((11, 0, 4294967295), q_b550_0)]
noncomputable def s_b550 : e2_Sm := (221, as_b550, E_b550, f_b550, rs_b550)
noncomputable def S_b550 : List e2_Sm := []
noncomputable def I_b550 : List e2_In := [(216, 1, e2x_216)]
set_option maxRecDepth 1000000 in
theorem co_b550 : e2_okSB E_b550.length as_b550 f_b550 rs_b550 = true := by decide +kernel
def al_b550_0 : List ev_V := [(2, 83, 0), (11, 0, 4294967295), (1, 2, 4294967296)]
def E_b550_0 : e2_E := [(2147483648, 2147583648, 0, 0), (2147483648, 2147483656, 1, 0), (2147483648, 2147483668, 2, 0)]
noncomputable def h_b550_0 : ev_H := (bn3560 : e2_Q8)
noncomputable def cl_b550_e : List (Nat × e2_S) := [(4, e2_cutL (al_b550_0.set 2 (11, 2147483648, 2147483668)) 2 (E_b550_0.take 2) h_b550_0)]
set_option maxRecDepth 1000000 in
theorem ck_b550_e : e2_run (e2_cal S_b550 I_b550 4000 1) (e2_fin rs_b550) e2x_221 (e2_bpL cl_b550_e) (e2_cutA cl_b550_e) 4000 (e2_seek e2x_221 0) (e2_al 3 as_b550) [] E_b550 f_b550 = true := by decide +kernel
noncomputable def cl_b550_0 : List (Nat × e2_S) := [(4, e2_cutL (al_b550_0.set 2 (13, 10, 2147483668)) 2 (E_b550_0.take 2) h_b550_0)]
set_option maxRecDepth 1000000 in
theorem ck_b550_0 : e2_runM (e2_cal S_b550 I_b550 4000 1) (e2_fin rs_b550) e2x_221 (e2_bpL cl_b550_0) (e2_cutA cl_b550_0) 4000 (e2_seek e2x_221 4) al_b550_0 [] E_b550_0 h_b550_0 = true := by decide +kernel
set_option maxRecDepth 1000000 in
theorem ci_b550_0 : e2_idl 2 (al_b550_0.set 2 (9, 0, 0)) = true := by decide +kernel
set_option maxRecDepth 1000000 in
theorem cj_b550_0 : e2_idh 2 8 h_b550_0 = true := by decide +kernel
theorem cs_b550 (hen : en_ok) (l : Launch) : e2_smOk l 2 s_b550 := by
  refine e2_conG (H := 0) (n := 1) (C := evd_221) (S := S_b550) (I := I_b550) (fuel := 4000) hen ei_221 e2_fz (e2_fa ein_216 e2_fz) (by decide) co_b550 fun M d _ hC hcall p e R s m args below meth c Q D cA A ads r0 ha hl0 => ?_
  have L_0 : e2_gdM M p l e R s m args below meth c Q D cA A ads r0 4 al_b550_0 [] E_b550_0 h_b550_0 := by
    refine e2_indL (u := 2) (j := 2) (lo := 2147483648) (hi := 2147483668) (b := 2) (dd := 0) hl0 (by decide) rfl rfl (Or.inr ⟨rfl, rfl⟩) rfl ci_b550_0 cj_b550_0 ?_
    intro r_0 k_0 hk_0 hp_0 hs_0 hn_0
    have hl_0 : r_0.length ≤ 3 := hs_0.len rfl
    have ha_0 := ha.ext hp_0
    exact e2_fromM hen ha_0 hcall (e2_cutA_ok (e2_fa (fun al st E h hc => hn_0 al st E h hc) e2_fz)) (hC []) (X := e2x_221) ex2_221 4 ck_b550_0
  have EN_0 := e2_entL (u := 2) (j := 2) (lo := 2147483648) (hi := 2147483668) hl0 rfl rfl rfl ci_b550_0 cj_b550_0 L_0
  exact e2_from hen ha hcall (e2_cutA_ok (e2_fa (fun al st E h hc => EN_0 al st E h hc) e2_fz)) (hC []) (X := e2x_221) ex2_221 0 ck_b550_e
/-! b551 X10_looks -/
def as_b551 : List ev_V := [(2, 83, 0)]
def E_b551 : e2_E := [(2147483648, 2147583648, 0, 0), (2147483648, 2147483656, 1, 0)]
def bn3561 : e2_Q5 := (bn722, bn790)
def bn3562 : e2_Q6 := (bn3561, bn250)
def bn3563 : e2_Q7 := (bn736, bn3562)
def bn3564 : e2_Q8 := (bn3556, bn3563)
noncomputable def f_b551 : ev_H := (bn3564 : e2_Q8)
noncomputable def q_b551_0 : ev_H := (bn3564 : e2_Q8)
noncomputable def rs_b551 : e2_Rs := [((11, 0, 4294967295), q_b551_0)]
noncomputable def s_b551 : e2_Sm := (222, as_b551, E_b551, f_b551, rs_b551)
noncomputable def S_b551 : List e2_Sm := [s_b550]
noncomputable def I_b551 : List e2_In := []
set_option maxRecDepth 1000000 in
theorem ck_b551 : e2_run (e2_cal S_b551 I_b551 4000 0) (e2_fin rs_b551) e2x_222 (fun _ => false) (fun _ _ _ _ _ => false) 4000 (e2_seek e2x_222 0) (e2_al 1 as_b551) [] E_b551 f_b551 = true := by decide +kernel
set_option maxRecDepth 1000000 in
theorem co_b551 : e2_okSB E_b551.length as_b551 f_b551 rs_b551 = true := by decide +kernel
theorem cs_b551 (hen : en_ok) (l : Launch) : e2_smOk l 3 s_b551 := e2_con0 (H := 2) (n := 0) (C := evd_222) (S := S_b551) (I := I_b551) (fuel := 4000) [] hen ei_222 (e2_fa (cs_b550 hen l) e2_fz) e2_fz (by decide) co_b551 ex2_222 ck_b551
/-! b552 X10_openCells -/
def as_b552 : List ev_V := [(2, 83, 0)]
def E_b552 : e2_E := [(2147483648, 2147583648, 0, 0), (2147483648, 2147483656, 1, 0)]
noncomputable def f_b552 : ev_H := (bn3564 : e2_Q8)
noncomputable def q_b552_0 : ev_H := (bn3564 : e2_Q8)
noncomputable def rs_b552 : e2_Rs := [((11, 0, 4294967295), q_b552_0)]
noncomputable def s_b552 : e2_Sm := (223, as_b552, E_b552, f_b552, rs_b552)
noncomputable def S_b552 : List e2_Sm := [s_b551]
noncomputable def I_b552 : List e2_In := [(216, 1, e2x_216)]
set_option maxRecDepth 1000000 in
theorem ck_b552 : e2_run (e2_cal S_b552 I_b552 4000 1) (e2_fin rs_b552) e2x_223 (fun _ => false) (fun _ _ _ _ _ => false) 4000 (e2_seek e2x_223 0) (e2_al 1 as_b552) [] E_b552 f_b552 = true := by decide +kernel
set_option maxRecDepth 1000000 in
theorem co_b552 : e2_okSB E_b552.length as_b552 f_b552 rs_b552 = true := by decide +kernel
theorem cs_b552 (hen : en_ok) (l : Launch) : e2_smOk l 5 s_b552 := e2_con0 (H := 3) (n := 1) (C := evd_223) (S := S_b552) (I := I_b552) (fuel := 4000) [] hen ei_223 (e2_fa (cs_b551 hen l) e2_fz) (e2_fa ein_216 e2_fz) (by decide) co_b552 ex2_223 ck_b552
/-! b553 X10_layWeights -/
def as_b553 : List ev_V := [(2, 83, 0)]
def E_b553 : e2_E := [(2147483648, 2147583648, 0, 0), (2147483648, 2147483656, 1, 0)]
def bn3565 : e2_Q5 := (bn699, bn751)
def bn3566 : e2_Q6 := (bn3565, bn702)
def bn3567 : e2_Q5 := (bn1393, bn92)
def bn3568 : e2_Q5 := (bn1721, bn343)
def bn3569 : e2_Q6 := (bn3567, bn3568)
def bn3570 : e2_Q7 := (bn3566, bn3569)
def bc257 : ev_C := (54, [(0, 160, 0), (11, 0, 4294967295)])
def bn3571 : e2_Q1 := (bc257, bc3)
def bn3572 : e2_Q2 := (bn137, bn3571)
def bn3573 : e2_Q3 := (bn136, bn3572)
def bn3574 : e2_Q4 := (bn349, bn3573)
def bn3575 : e2_Q5 := (bn3574, bn156)
def bn3576 : e2_Q6 := (bn3575, bn717)
def bn3577 : e2_Q7 := (bn3576, bn729)
def bn3578 : e2_Q8 := (bn3570, bn3577)
noncomputable def f_b553 : ev_H := (bn3578 : e2_Q8)
noncomputable def q_b553_0 : ev_H := (bn3578 : e2_Q8)
noncomputable def rs_b553 : e2_Rs := [((9, 0, 0), q_b553_0)]
noncomputable def s_b553 : e2_Sm := (224, as_b553, E_b553, f_b553, rs_b553)
noncomputable def S_b553 : List e2_Sm := [s_b166]
noncomputable def I_b553 : List e2_In := [(213, 2, e2x_213), (216, 1, e2x_216), (217, 1, e2x_217)]
set_option maxRecDepth 1000000 in
theorem co_b553 : e2_okSB E_b553.length as_b553 f_b553 rs_b553 = true := by decide +kernel
def al_b553_0 : List ev_V := [(2, 83, 0), (1, 2, 4294967296), (9, 0, 0), (9, 0, 0)]
def E_b553_0 : e2_E := [(2147483648, 2147583648, 0, 0), (2147483648, 2147483656, 1, 0), (2147483648, 2147483656, 2, 0)]
noncomputable def h_b553_0 : ev_H := (bn3578 : e2_Q8)
def al_b553_1 : List ev_V := [(2, 83, 0), (1, 2, 4294967296), (11, 2147483648, 2147483655), (1, 3, 4294967296)]
def E_b553_1 : e2_E := [(2147483648, 2147583648, 0, 0), (2147483649, 2147483656, 1, 0), (2147483648, 2147483655, 2, 0), (2147483648, 2147483668, 3, 0)]
noncomputable def h_b553_1 : ev_H := (bn3578 : e2_Q8)
noncomputable def cl_b553_e : List (Nat × e2_S) := [(12, e2_cutL (al_b553_0.set 1 (11, 2147483648, 2147483656)) 2 (E_b553_0.take 2) h_b553_0)]
set_option maxRecDepth 1000000 in
theorem ck_b553_e : e2_run (e2_cal S_b553 I_b553 4000 1) (e2_fin rs_b553) e2x_224 (e2_bpL cl_b553_e) (e2_cutA cl_b553_e) 4000 (e2_seek e2x_224 0) (e2_al 4 as_b553) [] E_b553 f_b553 = true := by decide +kernel
noncomputable def cl_b553_0 : List (Nat × e2_S) := [(60, e2_cutL (al_b553_1.set 3 (11, 2147483648, 2147483668)) 3 (E_b553_1.take 3) h_b553_1)]
set_option maxRecDepth 1000000 in
theorem ck_b553_0 : e2_runM (e2_cal S_b553 I_b553 4000 1) (e2_fin rs_b553) e2x_224 (e2_bpL cl_b553_0) (e2_cutA cl_b553_0) 4000 (e2_seek e2x_224 12) al_b553_0 [] E_b553_0 h_b553_0 = true := by decide +kernel
set_option maxRecDepth 1000000 in
theorem ci_b553_0 : e2_idl 2 (al_b553_0.set 1 (9, 0, 0)) = true := by decide +kernel
set_option maxRecDepth 1000000 in
theorem cj_b553_0 : e2_idh 2 8 h_b553_0 = true := by decide +kernel
noncomputable def cl_b553_1 : List (Nat × e2_S) := [(12, e2_cutL (al_b553_0.set 1 (13, 10, 2147483656)) 2 (E_b553_0.take 2) h_b553_0),
  (60, e2_cutL (al_b553_1.set 3 (13, 11, 2147483668)) 3 (E_b553_1.take 3) h_b553_1)]
set_option maxRecDepth 1000000 in
theorem ck_b553_1 : e2_runM (e2_cal S_b553 I_b553 4000 1) (e2_fin rs_b553) e2x_224 (e2_bpL cl_b553_1) (e2_cutA cl_b553_1) 4000 (e2_seek e2x_224 60) al_b553_1 [] E_b553_1 h_b553_1 = true := by decide +kernel
set_option maxRecDepth 1000000 in
theorem ci_b553_1 : e2_idl 3 (al_b553_1.set 3 (9, 0, 0)) = true := by decide +kernel
set_option maxRecDepth 1000000 in
theorem cj_b553_1 : e2_idh 3 8 h_b553_1 = true := by decide +kernel
theorem cs_b553 (hen : en_ok) (l : Launch) (hh : e2_hand_b l) : e2_smOk l 62 s_b553 := by
  refine e2_conG (H := 60) (n := 1) (C := evd_224) (S := S_b553) (I := I_b553) (fuel := 4000) hen ei_224 (e2_fa (hh _ hm_b166) e2_fz) (e2_fa ein_213 (e2_fa ein_216 (e2_fa ein_217 e2_fz))) (by decide) co_b553 fun M d _ hC hcall p e R s m args below meth c Q D cA A ads r0 ha hl0 => ?_
  have L_0 : e2_gdM M p l e R s m args below meth c Q D cA A ads r0 12 al_b553_0 [] E_b553_0 h_b553_0 := by
    refine e2_indL (u := 2) (j := 1) (lo := 2147483648) (hi := 2147483656) (b := 2) (dd := 0) hl0 (by decide) rfl rfl (Or.inr ⟨rfl, rfl⟩) rfl ci_b553_0 cj_b553_0 ?_
    intro r_0 k_0 hk_0 hp_0 hs_0 hn_0
    have hl_0 : r_0.length ≤ 3 := hs_0.len rfl
    have ha_0 := ha.ext hp_0
    have L_1 : e2_gdM M p l e R s m args below meth c Q D cA A ads r_0 60 al_b553_1 [] E_b553_1 h_b553_1 := by
      refine e2_indL (u := 3) (j := 3) (lo := 2147483648) (hi := 2147483668) (b := 3) (dd := 0) hl_0 (by decide) rfl rfl (Or.inr ⟨rfl, rfl⟩) rfl ci_b553_1 cj_b553_1 ?_
      intro r_1 k_1 hk_1 hp_1 hs_1 hn_1
      have hl_1 : r_1.length ≤ 4 := hs_1.len rfl
      have ha_1 := ha_0.ext hp_1
      exact e2_fromM hen ha_1 hcall (e2_cutA_ok (e2_fa (fun al st E h hc => (hn_0 al st E h hc).ext hp_1) (e2_fa (fun al st E h hc => hn_1 al st E h hc) e2_fz))) (hC []) (X := e2x_224) ex2_224 60 ck_b553_1
    have EN_1 := e2_entL (u := 3) (j := 3) (lo := 2147483648) (hi := 2147483668) hl_0 rfl rfl rfl ci_b553_1 cj_b553_1 L_1
    exact e2_fromM hen ha_0 hcall (e2_cutA_ok (e2_fa (fun al st E h hc => EN_1 al st E h hc) e2_fz)) (hC []) (X := e2x_224) ex2_224 12 ck_b553_0
  have EN_0 := e2_entL (u := 2) (j := 1) (lo := 2147483648) (hi := 2147483656) hl0 rfl rfl rfl ci_b553_0 cj_b553_0 L_0
  exact e2_from hen ha hcall (e2_cutA_ok (e2_fa (fun al st E h hc => EN_0 al st E h hc) e2_fz)) (hC []) (X := e2x_224) ex2_224 0 ck_b553_e
/-! b554 X10_layFrom -/
def as_b554 : List ev_V := [(2, 83, 0), (0, 19, 0), (11, 2147483648, 2147483656), (11, 0, 4294967295)]
def E_b554 : e2_E := [(2147483648, 2147583648, 0, 0), (2147483648, 2147483656, 1, 0)]
def bn3579 : e2_Q4 := (bn21, bn750)
def bn3580 : e2_Q5 := (bn329, bn3579)
def bn3581 : e2_Q6 := (bn3580, bn1584)
def bc258 : ev_C := (54, [(0, 189, 0), (11, 0, 4294967295)])
def bn3582 : e2_Q1 := (bc258, bc3)
def bn3583 : e2_Q2 := (bn73, bn3582)
def bn3584 : e2_Q3 := (bn72, bn3583)
def bn3585 : e2_Q4 := (bn69, bn3584)
def bn3586 : e2_Q5 := (bn3585, bn92)
def bn3587 : e2_Q6 := (bn3586, bn1284)
def bn3588 : e2_Q7 := (bn3581, bn3587)
def bn3589 : e2_Q6 := (bn3575, bn735)
def bn3590 : e2_Q2 := (bn199, bn3582)
def bn3591 : e2_Q3 := (bn720, bn3590)
def bn3592 : e2_Q4 := (bn195, bn3591)
def bn3593 : e2_Q5 := (bn3592, bn365)
def bn3594 : e2_Q6 := (bn3593, bn250)
def bn3595 : e2_Q7 := (bn3589, bn3594)
def bn3596 : e2_Q8 := (bn3588, bn3595)
noncomputable def f_b554 : ev_H := (bn3596 : e2_Q8)
noncomputable def q_b554_0 : ev_H := (bn3596 : e2_Q8)
noncomputable def rs_b554 : e2_Rs := [((9, 0, 0), q_b554_0)]
noncomputable def s_b554 : e2_Sm := (229, as_b554, E_b554, f_b554, rs_b554)
noncomputable def S_b554 : List e2_Sm := []
noncomputable def I_b554 : List e2_In := [(215, 2, e2x_215), (216, 1, e2x_216), (217, 1, e2x_217), (225, 5, e2x_225), (226, 3, e2x_226), (227, 2, e2x_227), (228, 3, e2x_228)]
set_option maxRecDepth 1000000 in
theorem co_b554 : e2_okSB E_b554.length as_b554 f_b554 rs_b554 = true := by decide +kernel
def al_b554_0 : List ev_V := [(2, 83, 0), (0, 19, 0), (11, 2147483648, 2147483656), (11, 0, 4294967295), (11, 2147483819, 2147483827), (1, 2, 4294967296), (9, 0, 0), (9, 0, 0)]
def E_b554_0 : e2_E := [(2147483648, 2147583648, 0, 0), (2147483648, 2147483656, 1, 0), (2147483648, 2147483656, 2, 0)]
noncomputable def h_b554_0 : ev_H := (bn3596 : e2_Q8)
noncomputable def cl_b554_e : List (Nat × e2_S) := [(28, e2_cutL (al_b554_0.set 5 (11, 2147483648, 2147483656)) 2 (E_b554_0.take 2) h_b554_0)]
set_option maxRecDepth 1000000 in
theorem ck_b554_e : e2_run (e2_cal S_b554 I_b554 4000 2) (e2_fin rs_b554) e2x_229 (e2_bpL cl_b554_e) (e2_cutA cl_b554_e) 4000 (e2_seek e2x_229 0) (e2_al 8 as_b554) [] E_b554 f_b554 = true := by decide +kernel
noncomputable def cl_b554_0 : List (Nat × e2_S) := [(28, e2_cutL (al_b554_0.set 5 (13, 10, 2147483656)) 2 (E_b554_0.take 2) h_b554_0)]
set_option maxRecDepth 1000000 in
theorem ck_b554_0 : e2_runM (e2_cal S_b554 I_b554 4000 2) (e2_fin rs_b554) e2x_229 (e2_bpL cl_b554_0) (e2_cutA cl_b554_0) 4000 (e2_seek e2x_229 28) al_b554_0 [] E_b554_0 h_b554_0 = true := by decide +kernel
set_option maxRecDepth 1000000 in
theorem ci_b554_0 : e2_idl 2 (al_b554_0.set 5 (9, 0, 0)) = true := by decide +kernel
set_option maxRecDepth 1000000 in
theorem cj_b554_0 : e2_idh 2 8 h_b554_0 = true := by decide +kernel
theorem cs_b554 (hen : en_ok) (l : Launch) : e2_smOk l 3 s_b554 := by
  refine e2_conG (H := 0) (n := 2) (C := evd_229) (S := S_b554) (I := I_b554) (fuel := 4000) hen ei_229 e2_fz (e2_fa ein_215 (e2_fa ein_216 (e2_fa ein_217 (e2_fa ein_225 (e2_fa ein_226 (e2_fa ein_227 (e2_fa ein_228 e2_fz))))))) (by decide) co_b554 fun M d _ hC hcall p e R s m args below meth c Q D cA A ads r0 ha hl0 => ?_
  have L_0 : e2_gdM M p l e R s m args below meth c Q D cA A ads r0 28 al_b554_0 [] E_b554_0 h_b554_0 := by
    refine e2_indL (u := 2) (j := 5) (lo := 2147483648) (hi := 2147483656) (b := 2) (dd := 0) hl0 (by decide) rfl rfl (Or.inr ⟨rfl, rfl⟩) rfl ci_b554_0 cj_b554_0 ?_
    intro r_0 k_0 hk_0 hp_0 hs_0 hn_0
    have hl_0 : r_0.length ≤ 3 := hs_0.len rfl
    have ha_0 := ha.ext hp_0
    exact e2_fromM hen ha_0 hcall (e2_cutA_ok (e2_fa (fun al st E h hc => hn_0 al st E h hc) e2_fz)) (hC [28]) (X := e2x_229) ex2_229 28 ck_b554_0
  have EN_0 := e2_entL (u := 2) (j := 5) (lo := 2147483648) (hi := 2147483656) hl0 rfl rfl rfl ci_b554_0 cj_b554_0 L_0
  exact e2_from hen ha hcall (e2_cutA_ok (e2_fa (fun al st E h hc => EN_0 al st E h hc) e2_fz)) (hC [28]) (X := e2x_229) ex2_229 0 ck_b554_e
/-! b555 X10_layFrom -/
def as_b555 : List ev_V := [(2, 83, 0), (0, 18, 0), (11, 2147483648, 2147483656), (11, 0, 4294967295)]
def E_b555 : e2_E := [(2147483648, 2147583648, 0, 0), (2147483648, 2147483656, 1, 0)]
noncomputable def f_b555 : ev_H := (bn3596 : e2_Q8)
noncomputable def q_b555_0 : ev_H := (bn3596 : e2_Q8)
noncomputable def rs_b555 : e2_Rs := [((9, 0, 0), q_b555_0)]
noncomputable def s_b555 : e2_Sm := (229, as_b555, E_b555, f_b555, rs_b555)
noncomputable def S_b555 : List e2_Sm := []
noncomputable def I_b555 : List e2_In := [(215, 2, e2x_215), (216, 1, e2x_216), (217, 1, e2x_217), (225, 5, e2x_225), (226, 3, e2x_226), (227, 2, e2x_227), (228, 3, e2x_228)]
set_option maxRecDepth 1000000 in
theorem co_b555 : e2_okSB E_b555.length as_b555 f_b555 rs_b555 = true := by decide +kernel
def al_b555_0 : List ev_V := [(2, 83, 0), (0, 18, 0), (11, 2147483648, 2147483656), (11, 0, 4294967295), (11, 2147483810, 2147483818), (1, 2, 4294967296), (9, 0, 0), (9, 0, 0)]
def E_b555_0 : e2_E := [(2147483648, 2147583648, 0, 0), (2147483648, 2147483656, 1, 0), (2147483648, 2147483656, 2, 0)]
noncomputable def h_b555_0 : ev_H := (bn3596 : e2_Q8)
noncomputable def cl_b555_e : List (Nat × e2_S) := [(28, e2_cutL (al_b555_0.set 5 (11, 2147483648, 2147483656)) 2 (E_b555_0.take 2) h_b555_0)]
set_option maxRecDepth 1000000 in
theorem ck_b555_e : e2_run (e2_cal S_b555 I_b555 4000 2) (e2_fin rs_b555) e2x_229 (e2_bpL cl_b555_e) (e2_cutA cl_b555_e) 4000 (e2_seek e2x_229 0) (e2_al 8 as_b555) [] E_b555 f_b555 = true := by decide +kernel
noncomputable def cl_b555_0 : List (Nat × e2_S) := [(28, e2_cutL (al_b555_0.set 5 (13, 10, 2147483656)) 2 (E_b555_0.take 2) h_b555_0)]
set_option maxRecDepth 1000000 in
theorem ck_b555_0 : e2_runM (e2_cal S_b555 I_b555 4000 2) (e2_fin rs_b555) e2x_229 (e2_bpL cl_b555_0) (e2_cutA cl_b555_0) 4000 (e2_seek e2x_229 28) al_b555_0 [] E_b555_0 h_b555_0 = true := by decide +kernel
set_option maxRecDepth 1000000 in
theorem ci_b555_0 : e2_idl 2 (al_b555_0.set 5 (9, 0, 0)) = true := by decide +kernel
set_option maxRecDepth 1000000 in
theorem cj_b555_0 : e2_idh 2 8 h_b555_0 = true := by decide +kernel
theorem cs_b555 (hen : en_ok) (l : Launch) : e2_smOk l 3 s_b555 := by
  refine e2_conG (H := 0) (n := 2) (C := evd_229) (S := S_b555) (I := I_b555) (fuel := 4000) hen ei_229 e2_fz (e2_fa ein_215 (e2_fa ein_216 (e2_fa ein_217 (e2_fa ein_225 (e2_fa ein_226 (e2_fa ein_227 (e2_fa ein_228 e2_fz))))))) (by decide) co_b555 fun M d _ hC hcall p e R s m args below meth c Q D cA A ads r0 ha hl0 => ?_
  have L_0 : e2_gdM M p l e R s m args below meth c Q D cA A ads r0 28 al_b555_0 [] E_b555_0 h_b555_0 := by
    refine e2_indL (u := 2) (j := 5) (lo := 2147483648) (hi := 2147483656) (b := 2) (dd := 0) hl0 (by decide) rfl rfl (Or.inr ⟨rfl, rfl⟩) rfl ci_b555_0 cj_b555_0 ?_
    intro r_0 k_0 hk_0 hp_0 hs_0 hn_0
    have hl_0 : r_0.length ≤ 3 := hs_0.len rfl
    have ha_0 := ha.ext hp_0
    exact e2_fromM hen ha_0 hcall (e2_cutA_ok (e2_fa (fun al st E h hc => hn_0 al st E h hc) e2_fz)) (hC [28]) (X := e2x_229) ex2_229 28 ck_b555_0
  have EN_0 := e2_entL (u := 2) (j := 5) (lo := 2147483648) (hi := 2147483656) hl0 rfl rfl rfl ci_b555_0 cj_b555_0 L_0
  exact e2_from hen ha hcall (e2_cutA_ok (e2_fa (fun al st E h hc => EN_0 al st E h hc) e2_fz)) (hC [28]) (X := e2x_229) ex2_229 0 ck_b555_e
/-! b556 X10_layFrom -/
def as_b556 : List ev_V := [(2, 83, 0), (0, 17, 0), (11, 2147483648, 2147483656), (11, 0, 4294967295)]
def E_b556 : e2_E := [(2147483648, 2147583648, 0, 0), (2147483648, 2147483656, 1, 0)]
noncomputable def f_b556 : ev_H := (bn3596 : e2_Q8)
noncomputable def q_b556_0 : ev_H := (bn3596 : e2_Q8)
noncomputable def rs_b556 : e2_Rs := [((9, 0, 0), q_b556_0)]
noncomputable def s_b556 : e2_Sm := (229, as_b556, E_b556, f_b556, rs_b556)
noncomputable def S_b556 : List e2_Sm := []
noncomputable def I_b556 : List e2_In := [(215, 2, e2x_215), (216, 1, e2x_216), (217, 1, e2x_217), (225, 5, e2x_225), (226, 3, e2x_226), (227, 2, e2x_227), (228, 3, e2x_228)]
set_option maxRecDepth 1000000 in
theorem co_b556 : e2_okSB E_b556.length as_b556 f_b556 rs_b556 = true := by decide +kernel
def al_b556_0 : List ev_V := [(2, 83, 0), (0, 17, 0), (11, 2147483648, 2147483656), (11, 0, 4294967295), (11, 2147483801, 2147483809), (1, 2, 4294967296), (9, 0, 0), (9, 0, 0)]
def E_b556_0 : e2_E := [(2147483648, 2147583648, 0, 0), (2147483648, 2147483656, 1, 0), (2147483648, 2147483656, 2, 0)]
noncomputable def h_b556_0 : ev_H := (bn3596 : e2_Q8)
noncomputable def cl_b556_e : List (Nat × e2_S) := [(28, e2_cutL (al_b556_0.set 5 (11, 2147483648, 2147483656)) 2 (E_b556_0.take 2) h_b556_0)]
set_option maxRecDepth 1000000 in
theorem ck_b556_e : e2_run (e2_cal S_b556 I_b556 4000 2) (e2_fin rs_b556) e2x_229 (e2_bpL cl_b556_e) (e2_cutA cl_b556_e) 4000 (e2_seek e2x_229 0) (e2_al 8 as_b556) [] E_b556 f_b556 = true := by decide +kernel
noncomputable def cl_b556_0 : List (Nat × e2_S) := [(28, e2_cutL (al_b556_0.set 5 (13, 10, 2147483656)) 2 (E_b556_0.take 2) h_b556_0)]
set_option maxRecDepth 1000000 in
theorem ck_b556_0 : e2_runM (e2_cal S_b556 I_b556 4000 2) (e2_fin rs_b556) e2x_229 (e2_bpL cl_b556_0) (e2_cutA cl_b556_0) 4000 (e2_seek e2x_229 28) al_b556_0 [] E_b556_0 h_b556_0 = true := by decide +kernel
set_option maxRecDepth 1000000 in
theorem ci_b556_0 : e2_idl 2 (al_b556_0.set 5 (9, 0, 0)) = true := by decide +kernel
set_option maxRecDepth 1000000 in
theorem cj_b556_0 : e2_idh 2 8 h_b556_0 = true := by decide +kernel
theorem cs_b556 (hen : en_ok) (l : Launch) : e2_smOk l 3 s_b556 := by
  refine e2_conG (H := 0) (n := 2) (C := evd_229) (S := S_b556) (I := I_b556) (fuel := 4000) hen ei_229 e2_fz (e2_fa ein_215 (e2_fa ein_216 (e2_fa ein_217 (e2_fa ein_225 (e2_fa ein_226 (e2_fa ein_227 (e2_fa ein_228 e2_fz))))))) (by decide) co_b556 fun M d _ hC hcall p e R s m args below meth c Q D cA A ads r0 ha hl0 => ?_
  have L_0 : e2_gdM M p l e R s m args below meth c Q D cA A ads r0 28 al_b556_0 [] E_b556_0 h_b556_0 := by
    refine e2_indL (u := 2) (j := 5) (lo := 2147483648) (hi := 2147483656) (b := 2) (dd := 0) hl0 (by decide) rfl rfl (Or.inr ⟨rfl, rfl⟩) rfl ci_b556_0 cj_b556_0 ?_
    intro r_0 k_0 hk_0 hp_0 hs_0 hn_0
    have hl_0 : r_0.length ≤ 3 := hs_0.len rfl
    have ha_0 := ha.ext hp_0
    exact e2_fromM hen ha_0 hcall (e2_cutA_ok (e2_fa (fun al st E h hc => hn_0 al st E h hc) e2_fz)) (hC [28]) (X := e2x_229) ex2_229 28 ck_b556_0
  have EN_0 := e2_entL (u := 2) (j := 5) (lo := 2147483648) (hi := 2147483656) hl0 rfl rfl rfl ci_b556_0 cj_b556_0 L_0
  exact e2_from hen ha hcall (e2_cutA_ok (e2_fa (fun al st E h hc => EN_0 al st E h hc) e2_fz)) (hC [28]) (X := e2x_229) ex2_229 0 ck_b556_e
/-! b557 X10_layFrom -/
def as_b557 : List ev_V := [(2, 83, 0), (0, 16, 0), (11, 2147483648, 2147483656), (11, 0, 4294967295)]
def E_b557 : e2_E := [(2147483648, 2147583648, 0, 0), (2147483648, 2147483656, 1, 0)]
noncomputable def f_b557 : ev_H := (bn3596 : e2_Q8)
noncomputable def q_b557_0 : ev_H := (bn3596 : e2_Q8)
noncomputable def rs_b557 : e2_Rs := [((9, 0, 0), q_b557_0)]
noncomputable def s_b557 : e2_Sm := (229, as_b557, E_b557, f_b557, rs_b557)
noncomputable def S_b557 : List e2_Sm := []
noncomputable def I_b557 : List e2_In := [(215, 2, e2x_215), (216, 1, e2x_216), (217, 1, e2x_217), (225, 5, e2x_225), (226, 3, e2x_226), (227, 2, e2x_227), (228, 3, e2x_228)]
set_option maxRecDepth 1000000 in
theorem co_b557 : e2_okSB E_b557.length as_b557 f_b557 rs_b557 = true := by decide +kernel
def al_b557_0 : List ev_V := [(2, 83, 0), (0, 16, 0), (11, 2147483648, 2147483656), (11, 0, 4294967295), (11, 2147483792, 2147483800), (1, 2, 4294967296), (9, 0, 0), (9, 0, 0)]
def E_b557_0 : e2_E := [(2147483648, 2147583648, 0, 0), (2147483648, 2147483656, 1, 0), (2147483648, 2147483656, 2, 0)]
noncomputable def h_b557_0 : ev_H := (bn3596 : e2_Q8)
noncomputable def cl_b557_e : List (Nat × e2_S) := [(28, e2_cutL (al_b557_0.set 5 (11, 2147483648, 2147483656)) 2 (E_b557_0.take 2) h_b557_0)]
set_option maxRecDepth 1000000 in
theorem ck_b557_e : e2_run (e2_cal S_b557 I_b557 4000 2) (e2_fin rs_b557) e2x_229 (e2_bpL cl_b557_e) (e2_cutA cl_b557_e) 4000 (e2_seek e2x_229 0) (e2_al 8 as_b557) [] E_b557 f_b557 = true := by decide +kernel
noncomputable def cl_b557_0 : List (Nat × e2_S) := [(28, e2_cutL (al_b557_0.set 5 (13, 10, 2147483656)) 2 (E_b557_0.take 2) h_b557_0)]
set_option maxRecDepth 1000000 in
theorem ck_b557_0 : e2_runM (e2_cal S_b557 I_b557 4000 2) (e2_fin rs_b557) e2x_229 (e2_bpL cl_b557_0) (e2_cutA cl_b557_0) 4000 (e2_seek e2x_229 28) al_b557_0 [] E_b557_0 h_b557_0 = true := by decide +kernel
set_option maxRecDepth 1000000 in
theorem ci_b557_0 : e2_idl 2 (al_b557_0.set 5 (9, 0, 0)) = true := by decide +kernel
set_option maxRecDepth 1000000 in
theorem cj_b557_0 : e2_idh 2 8 h_b557_0 = true := by decide +kernel
theorem cs_b557 (hen : en_ok) (l : Launch) : e2_smOk l 3 s_b557 := by
  refine e2_conG (H := 0) (n := 2) (C := evd_229) (S := S_b557) (I := I_b557) (fuel := 4000) hen ei_229 e2_fz (e2_fa ein_215 (e2_fa ein_216 (e2_fa ein_217 (e2_fa ein_225 (e2_fa ein_226 (e2_fa ein_227 (e2_fa ein_228 e2_fz))))))) (by decide) co_b557 fun M d _ hC hcall p e R s m args below meth c Q D cA A ads r0 ha hl0 => ?_
  have L_0 : e2_gdM M p l e R s m args below meth c Q D cA A ads r0 28 al_b557_0 [] E_b557_0 h_b557_0 := by
    refine e2_indL (u := 2) (j := 5) (lo := 2147483648) (hi := 2147483656) (b := 2) (dd := 0) hl0 (by decide) rfl rfl (Or.inr ⟨rfl, rfl⟩) rfl ci_b557_0 cj_b557_0 ?_
    intro r_0 k_0 hk_0 hp_0 hs_0 hn_0
    have hl_0 : r_0.length ≤ 3 := hs_0.len rfl
    have ha_0 := ha.ext hp_0
    exact e2_fromM hen ha_0 hcall (e2_cutA_ok (e2_fa (fun al st E h hc => hn_0 al st E h hc) e2_fz)) (hC [28]) (X := e2x_229) ex2_229 28 ck_b557_0
  have EN_0 := e2_entL (u := 2) (j := 5) (lo := 2147483648) (hi := 2147483656) hl0 rfl rfl rfl ci_b557_0 cj_b557_0 L_0
  exact e2_from hen ha hcall (e2_cutA_ok (e2_fa (fun al st E h hc => EN_0 al st E h hc) e2_fz)) (hC [28]) (X := e2x_229) ex2_229 0 ck_b557_e
/-! b558 X10_layFrom -/
def as_b558 : List ev_V := [(2, 83, 0), (0, 15, 0), (11, 2147483648, 2147483656), (11, 0, 4294967295)]
def E_b558 : e2_E := [(2147483648, 2147583648, 0, 0), (2147483648, 2147483656, 1, 0)]
noncomputable def f_b558 : ev_H := (bn3596 : e2_Q8)
noncomputable def q_b558_0 : ev_H := (bn3596 : e2_Q8)
noncomputable def rs_b558 : e2_Rs := [((9, 0, 0), q_b558_0)]
noncomputable def s_b558 : e2_Sm := (229, as_b558, E_b558, f_b558, rs_b558)
noncomputable def S_b558 : List e2_Sm := []
noncomputable def I_b558 : List e2_In := [(215, 2, e2x_215), (216, 1, e2x_216), (217, 1, e2x_217), (225, 5, e2x_225), (226, 3, e2x_226), (227, 2, e2x_227), (228, 3, e2x_228)]
set_option maxRecDepth 1000000 in
theorem co_b558 : e2_okSB E_b558.length as_b558 f_b558 rs_b558 = true := by decide +kernel
def al_b558_0 : List ev_V := [(2, 83, 0), (0, 15, 0), (11, 2147483648, 2147483656), (11, 0, 4294967295), (11, 2147483783, 2147483791), (1, 2, 4294967296), (9, 0, 0), (9, 0, 0)]
def E_b558_0 : e2_E := [(2147483648, 2147583648, 0, 0), (2147483648, 2147483656, 1, 0), (2147483648, 2147483656, 2, 0)]
noncomputable def h_b558_0 : ev_H := (bn3596 : e2_Q8)
noncomputable def cl_b558_e : List (Nat × e2_S) := [(28, e2_cutL (al_b558_0.set 5 (11, 2147483648, 2147483656)) 2 (E_b558_0.take 2) h_b558_0)]
set_option maxRecDepth 1000000 in
theorem ck_b558_e : e2_run (e2_cal S_b558 I_b558 4000 2) (e2_fin rs_b558) e2x_229 (e2_bpL cl_b558_e) (e2_cutA cl_b558_e) 4000 (e2_seek e2x_229 0) (e2_al 8 as_b558) [] E_b558 f_b558 = true := by decide +kernel
noncomputable def cl_b558_0 : List (Nat × e2_S) := [(28, e2_cutL (al_b558_0.set 5 (13, 10, 2147483656)) 2 (E_b558_0.take 2) h_b558_0)]
set_option maxRecDepth 1000000 in
theorem ck_b558_0 : e2_runM (e2_cal S_b558 I_b558 4000 2) (e2_fin rs_b558) e2x_229 (e2_bpL cl_b558_0) (e2_cutA cl_b558_0) 4000 (e2_seek e2x_229 28) al_b558_0 [] E_b558_0 h_b558_0 = true := by decide +kernel
set_option maxRecDepth 1000000 in
theorem ci_b558_0 : e2_idl 2 (al_b558_0.set 5 (9, 0, 0)) = true := by decide +kernel
set_option maxRecDepth 1000000 in
theorem cj_b558_0 : e2_idh 2 8 h_b558_0 = true := by decide +kernel
theorem cs_b558 (hen : en_ok) (l : Launch) : e2_smOk l 3 s_b558 := by
  refine e2_conG (H := 0) (n := 2) (C := evd_229) (S := S_b558) (I := I_b558) (fuel := 4000) hen ei_229 e2_fz (e2_fa ein_215 (e2_fa ein_216 (e2_fa ein_217 (e2_fa ein_225 (e2_fa ein_226 (e2_fa ein_227 (e2_fa ein_228 e2_fz))))))) (by decide) co_b558 fun M d _ hC hcall p e R s m args below meth c Q D cA A ads r0 ha hl0 => ?_
  have L_0 : e2_gdM M p l e R s m args below meth c Q D cA A ads r0 28 al_b558_0 [] E_b558_0 h_b558_0 := by
    refine e2_indL (u := 2) (j := 5) (lo := 2147483648) (hi := 2147483656) (b := 2) (dd := 0) hl0 (by decide) rfl rfl (Or.inr ⟨rfl, rfl⟩) rfl ci_b558_0 cj_b558_0 ?_
    intro r_0 k_0 hk_0 hp_0 hs_0 hn_0
    have hl_0 : r_0.length ≤ 3 := hs_0.len rfl
    have ha_0 := ha.ext hp_0
    exact e2_fromM hen ha_0 hcall (e2_cutA_ok (e2_fa (fun al st E h hc => hn_0 al st E h hc) e2_fz)) (hC [28]) (X := e2x_229) ex2_229 28 ck_b558_0
  have EN_0 := e2_entL (u := 2) (j := 5) (lo := 2147483648) (hi := 2147483656) hl0 rfl rfl rfl ci_b558_0 cj_b558_0 L_0
  exact e2_from hen ha hcall (e2_cutA_ok (e2_fa (fun al st E h hc => EN_0 al st E h hc) e2_fz)) (hC [28]) (X := e2x_229) ex2_229 0 ck_b558_e
/-! b559 X10_layFrom -/
def as_b559 : List ev_V := [(2, 83, 0), (0, 14, 0), (11, 2147483648, 2147483656), (11, 0, 4294967295)]
def E_b559 : e2_E := [(2147483648, 2147583648, 0, 0), (2147483648, 2147483656, 1, 0)]
noncomputable def f_b559 : ev_H := (bn3596 : e2_Q8)
noncomputable def q_b559_0 : ev_H := (bn3596 : e2_Q8)
noncomputable def rs_b559 : e2_Rs := [((9, 0, 0), q_b559_0)]
noncomputable def s_b559 : e2_Sm := (229, as_b559, E_b559, f_b559, rs_b559)
noncomputable def S_b559 : List e2_Sm := []
noncomputable def I_b559 : List e2_In := [(215, 2, e2x_215), (216, 1, e2x_216), (217, 1, e2x_217), (225, 5, e2x_225), (226, 3, e2x_226), (227, 2, e2x_227), (228, 3, e2x_228)]
set_option maxRecDepth 1000000 in
theorem co_b559 : e2_okSB E_b559.length as_b559 f_b559 rs_b559 = true := by decide +kernel
def al_b559_0 : List ev_V := [(2, 83, 0), (0, 14, 0), (11, 2147483648, 2147483656), (11, 0, 4294967295), (11, 2147483774, 2147483782), (1, 2, 4294967296), (9, 0, 0), (9, 0, 0)]
def E_b559_0 : e2_E := [(2147483648, 2147583648, 0, 0), (2147483648, 2147483656, 1, 0), (2147483648, 2147483656, 2, 0)]
noncomputable def h_b559_0 : ev_H := (bn3596 : e2_Q8)
noncomputable def cl_b559_e : List (Nat × e2_S) := [(28, e2_cutL (al_b559_0.set 5 (11, 2147483648, 2147483656)) 2 (E_b559_0.take 2) h_b559_0)]
set_option maxRecDepth 1000000 in
theorem ck_b559_e : e2_run (e2_cal S_b559 I_b559 4000 2) (e2_fin rs_b559) e2x_229 (e2_bpL cl_b559_e) (e2_cutA cl_b559_e) 4000 (e2_seek e2x_229 0) (e2_al 8 as_b559) [] E_b559 f_b559 = true := by decide +kernel
noncomputable def cl_b559_0 : List (Nat × e2_S) := [(28, e2_cutL (al_b559_0.set 5 (13, 10, 2147483656)) 2 (E_b559_0.take 2) h_b559_0)]
set_option maxRecDepth 1000000 in
theorem ck_b559_0 : e2_runM (e2_cal S_b559 I_b559 4000 2) (e2_fin rs_b559) e2x_229 (e2_bpL cl_b559_0) (e2_cutA cl_b559_0) 4000 (e2_seek e2x_229 28) al_b559_0 [] E_b559_0 h_b559_0 = true := by decide +kernel
set_option maxRecDepth 1000000 in
theorem ci_b559_0 : e2_idl 2 (al_b559_0.set 5 (9, 0, 0)) = true := by decide +kernel
set_option maxRecDepth 1000000 in
theorem cj_b559_0 : e2_idh 2 8 h_b559_0 = true := by decide +kernel
theorem cs_b559 (hen : en_ok) (l : Launch) : e2_smOk l 3 s_b559 := by
  refine e2_conG (H := 0) (n := 2) (C := evd_229) (S := S_b559) (I := I_b559) (fuel := 4000) hen ei_229 e2_fz (e2_fa ein_215 (e2_fa ein_216 (e2_fa ein_217 (e2_fa ein_225 (e2_fa ein_226 (e2_fa ein_227 (e2_fa ein_228 e2_fz))))))) (by decide) co_b559 fun M d _ hC hcall p e R s m args below meth c Q D cA A ads r0 ha hl0 => ?_
  have L_0 : e2_gdM M p l e R s m args below meth c Q D cA A ads r0 28 al_b559_0 [] E_b559_0 h_b559_0 := by
    refine e2_indL (u := 2) (j := 5) (lo := 2147483648) (hi := 2147483656) (b := 2) (dd := 0) hl0 (by decide) rfl rfl (Or.inr ⟨rfl, rfl⟩) rfl ci_b559_0 cj_b559_0 ?_
    intro r_0 k_0 hk_0 hp_0 hs_0 hn_0
    have hl_0 : r_0.length ≤ 3 := hs_0.len rfl
    have ha_0 := ha.ext hp_0
    exact e2_fromM hen ha_0 hcall (e2_cutA_ok (e2_fa (fun al st E h hc => hn_0 al st E h hc) e2_fz)) (hC [28]) (X := e2x_229) ex2_229 28 ck_b559_0
  have EN_0 := e2_entL (u := 2) (j := 5) (lo := 2147483648) (hi := 2147483656) hl0 rfl rfl rfl ci_b559_0 cj_b559_0 L_0
  exact e2_from hen ha hcall (e2_cutA_ok (e2_fa (fun al st E h hc => EN_0 al st E h hc) e2_fz)) (hC [28]) (X := e2x_229) ex2_229 0 ck_b559_e
/-! b560 X10_layFrom -/
def as_b560 : List ev_V := [(2, 83, 0), (0, 13, 0), (11, 2147483648, 2147483656), (11, 0, 4294967295)]
def E_b560 : e2_E := [(2147483648, 2147583648, 0, 0), (2147483648, 2147483656, 1, 0)]
noncomputable def f_b560 : ev_H := (bn3596 : e2_Q8)
noncomputable def q_b560_0 : ev_H := (bn3596 : e2_Q8)
noncomputable def rs_b560 : e2_Rs := [((9, 0, 0), q_b560_0)]
noncomputable def s_b560 : e2_Sm := (229, as_b560, E_b560, f_b560, rs_b560)
noncomputable def S_b560 : List e2_Sm := []
noncomputable def I_b560 : List e2_In := [(215, 2, e2x_215), (216, 1, e2x_216), (217, 1, e2x_217), (225, 5, e2x_225), (226, 3, e2x_226), (227, 2, e2x_227), (228, 3, e2x_228)]
set_option maxRecDepth 1000000 in
theorem co_b560 : e2_okSB E_b560.length as_b560 f_b560 rs_b560 = true := by decide +kernel
def al_b560_0 : List ev_V := [(2, 83, 0), (0, 13, 0), (11, 2147483648, 2147483656), (11, 0, 4294967295), (11, 2147483765, 2147483773), (1, 2, 4294967296), (9, 0, 0), (9, 0, 0)]
def E_b560_0 : e2_E := [(2147483648, 2147583648, 0, 0), (2147483648, 2147483656, 1, 0), (2147483648, 2147483656, 2, 0)]
noncomputable def h_b560_0 : ev_H := (bn3596 : e2_Q8)
noncomputable def cl_b560_e : List (Nat × e2_S) := [(28, e2_cutL (al_b560_0.set 5 (11, 2147483648, 2147483656)) 2 (E_b560_0.take 2) h_b560_0)]
set_option maxRecDepth 1000000 in
theorem ck_b560_e : e2_run (e2_cal S_b560 I_b560 4000 2) (e2_fin rs_b560) e2x_229 (e2_bpL cl_b560_e) (e2_cutA cl_b560_e) 4000 (e2_seek e2x_229 0) (e2_al 8 as_b560) [] E_b560 f_b560 = true := by decide +kernel
noncomputable def cl_b560_0 : List (Nat × e2_S) := [(28, e2_cutL (al_b560_0.set 5 (13, 10, 2147483656)) 2 (E_b560_0.take 2) h_b560_0)]
set_option maxRecDepth 1000000 in
theorem ck_b560_0 : e2_runM (e2_cal S_b560 I_b560 4000 2) (e2_fin rs_b560) e2x_229 (e2_bpL cl_b560_0) (e2_cutA cl_b560_0) 4000 (e2_seek e2x_229 28) al_b560_0 [] E_b560_0 h_b560_0 = true := by decide +kernel
set_option maxRecDepth 1000000 in
theorem ci_b560_0 : e2_idl 2 (al_b560_0.set 5 (9, 0, 0)) = true := by decide +kernel
set_option maxRecDepth 1000000 in
theorem cj_b560_0 : e2_idh 2 8 h_b560_0 = true := by decide +kernel
theorem cs_b560 (hen : en_ok) (l : Launch) : e2_smOk l 3 s_b560 := by
  refine e2_conG (H := 0) (n := 2) (C := evd_229) (S := S_b560) (I := I_b560) (fuel := 4000) hen ei_229 e2_fz (e2_fa ein_215 (e2_fa ein_216 (e2_fa ein_217 (e2_fa ein_225 (e2_fa ein_226 (e2_fa ein_227 (e2_fa ein_228 e2_fz))))))) (by decide) co_b560 fun M d _ hC hcall p e R s m args below meth c Q D cA A ads r0 ha hl0 => ?_
  have L_0 : e2_gdM M p l e R s m args below meth c Q D cA A ads r0 28 al_b560_0 [] E_b560_0 h_b560_0 := by
    refine e2_indL (u := 2) (j := 5) (lo := 2147483648) (hi := 2147483656) (b := 2) (dd := 0) hl0 (by decide) rfl rfl (Or.inr ⟨rfl, rfl⟩) rfl ci_b560_0 cj_b560_0 ?_
    intro r_0 k_0 hk_0 hp_0 hs_0 hn_0
    have hl_0 : r_0.length ≤ 3 := hs_0.len rfl
    have ha_0 := ha.ext hp_0
    exact e2_fromM hen ha_0 hcall (e2_cutA_ok (e2_fa (fun al st E h hc => hn_0 al st E h hc) e2_fz)) (hC [28]) (X := e2x_229) ex2_229 28 ck_b560_0
  have EN_0 := e2_entL (u := 2) (j := 5) (lo := 2147483648) (hi := 2147483656) hl0 rfl rfl rfl ci_b560_0 cj_b560_0 L_0
  exact e2_from hen ha hcall (e2_cutA_ok (e2_fa (fun al st E h hc => EN_0 al st E h hc) e2_fz)) (hC [28]) (X := e2x_229) ex2_229 0 ck_b560_e
/-! b561 X10_layFrom -/
def as_b561 : List ev_V := [(2, 83, 0), (0, 12, 0), (11, 2147483648, 2147483656), (11, 0, 4294967295)]
def E_b561 : e2_E := [(2147483648, 2147583648, 0, 0), (2147483648, 2147483656, 1, 0)]
noncomputable def f_b561 : ev_H := (bn3596 : e2_Q8)
noncomputable def q_b561_0 : ev_H := (bn3596 : e2_Q8)
noncomputable def rs_b561 : e2_Rs := [((9, 0, 0), q_b561_0)]
noncomputable def s_b561 : e2_Sm := (229, as_b561, E_b561, f_b561, rs_b561)
noncomputable def S_b561 : List e2_Sm := []
noncomputable def I_b561 : List e2_In := [(215, 2, e2x_215), (216, 1, e2x_216), (217, 1, e2x_217), (225, 5, e2x_225), (226, 3, e2x_226), (227, 2, e2x_227), (228, 3, e2x_228)]
set_option maxRecDepth 1000000 in
theorem co_b561 : e2_okSB E_b561.length as_b561 f_b561 rs_b561 = true := by decide +kernel
def al_b561_0 : List ev_V := [(2, 83, 0), (0, 12, 0), (11, 2147483648, 2147483656), (11, 0, 4294967295), (11, 2147483756, 2147483764), (1, 2, 4294967296), (9, 0, 0), (9, 0, 0)]
def E_b561_0 : e2_E := [(2147483648, 2147583648, 0, 0), (2147483648, 2147483656, 1, 0), (2147483648, 2147483656, 2, 0)]
noncomputable def h_b561_0 : ev_H := (bn3596 : e2_Q8)
noncomputable def cl_b561_e : List (Nat × e2_S) := [(28, e2_cutL (al_b561_0.set 5 (11, 2147483648, 2147483656)) 2 (E_b561_0.take 2) h_b561_0)]
set_option maxRecDepth 1000000 in
theorem ck_b561_e : e2_run (e2_cal S_b561 I_b561 4000 2) (e2_fin rs_b561) e2x_229 (e2_bpL cl_b561_e) (e2_cutA cl_b561_e) 4000 (e2_seek e2x_229 0) (e2_al 8 as_b561) [] E_b561 f_b561 = true := by decide +kernel
noncomputable def cl_b561_0 : List (Nat × e2_S) := [(28, e2_cutL (al_b561_0.set 5 (13, 10, 2147483656)) 2 (E_b561_0.take 2) h_b561_0)]
set_option maxRecDepth 1000000 in
theorem ck_b561_0 : e2_runM (e2_cal S_b561 I_b561 4000 2) (e2_fin rs_b561) e2x_229 (e2_bpL cl_b561_0) (e2_cutA cl_b561_0) 4000 (e2_seek e2x_229 28) al_b561_0 [] E_b561_0 h_b561_0 = true := by decide +kernel
set_option maxRecDepth 1000000 in
theorem ci_b561_0 : e2_idl 2 (al_b561_0.set 5 (9, 0, 0)) = true := by decide +kernel
set_option maxRecDepth 1000000 in
theorem cj_b561_0 : e2_idh 2 8 h_b561_0 = true := by decide +kernel
theorem cs_b561 (hen : en_ok) (l : Launch) : e2_smOk l 3 s_b561 := by
  refine e2_conG (H := 0) (n := 2) (C := evd_229) (S := S_b561) (I := I_b561) (fuel := 4000) hen ei_229 e2_fz (e2_fa ein_215 (e2_fa ein_216 (e2_fa ein_217 (e2_fa ein_225 (e2_fa ein_226 (e2_fa ein_227 (e2_fa ein_228 e2_fz))))))) (by decide) co_b561 fun M d _ hC hcall p e R s m args below meth c Q D cA A ads r0 ha hl0 => ?_
  have L_0 : e2_gdM M p l e R s m args below meth c Q D cA A ads r0 28 al_b561_0 [] E_b561_0 h_b561_0 := by
    refine e2_indL (u := 2) (j := 5) (lo := 2147483648) (hi := 2147483656) (b := 2) (dd := 0) hl0 (by decide) rfl rfl (Or.inr ⟨rfl, rfl⟩) rfl ci_b561_0 cj_b561_0 ?_
    intro r_0 k_0 hk_0 hp_0 hs_0 hn_0
    have hl_0 : r_0.length ≤ 3 := hs_0.len rfl
    have ha_0 := ha.ext hp_0
    exact e2_fromM hen ha_0 hcall (e2_cutA_ok (e2_fa (fun al st E h hc => hn_0 al st E h hc) e2_fz)) (hC [28]) (X := e2x_229) ex2_229 28 ck_b561_0
  have EN_0 := e2_entL (u := 2) (j := 5) (lo := 2147483648) (hi := 2147483656) hl0 rfl rfl rfl ci_b561_0 cj_b561_0 L_0
  exact e2_from hen ha hcall (e2_cutA_ok (e2_fa (fun al st E h hc => EN_0 al st E h hc) e2_fz)) (hC [28]) (X := e2x_229) ex2_229 0 ck_b561_e
