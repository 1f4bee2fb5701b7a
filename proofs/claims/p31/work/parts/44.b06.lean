/-! CONTRACTS b, printed by a program -/
/-! b519 X10_readGlyph -/
def as_b519 : List ev_V := [(2, 83, 0)]
def E_b519 : e2_E := [(2147483648, 2147583648, 0, 0), (2147483648, 2147483656, 1, 0), (2147483648, 2147485249, 2, 0)]
def bn3223 : e2_Q7 := (bn517, bn2967)
def bn3224 : e2_Q8 := (bn1938, bn3223)
noncomputable def f_b519 : ev_H := (bn3224 : e2_Q8)
def bn3225 : e2_Q7 := (bn517, bn2970)
def bn3226 : e2_Q8 := (bn2052, bn3225)
noncomputable def q_b519_0 : ev_H := (bn3226 : e2_Q8)
noncomputable def rs_b519 : e2_Rs := [((9, 0, 0), q_b519_0)]
noncomputable def s_b519 : e2_Sm := (196, as_b519, E_b519, f_b519, rs_b519)
noncomputable def S_b519 : List e2_Sm := [s_b67, s_b179, s_b233, s_b254, s_b257, s_b386, s_b490]
noncomputable def I_b519 : List e2_In := [(179, 3, e2x_179)]
set_option maxRecDepth 1000000 in
theorem ck_b519 : e2_run (e2_cal S_b519 I_b519 4000 1) (e2_fin rs_b519) e2x_196 (fun _ => false) (fun _ _ _ _ _ => false) 4000 (e2_seek e2x_196 0) (e2_al 2 as_b519) [] E_b519 f_b519 = true := by decide +kernel
set_option maxRecDepth 1000000 in
theorem co_b519 : e2_okSB E_b519.length as_b519 f_b519 rs_b519 = true := by decide +kernel
theorem cs_b519 (hen : en_ok) (l : Launch) (hh : e2_hand_b l) : e2_smOk l 62 s_b519 := e2_con0 (H := 60) (n := 1) (C := evd_196) (S := S_b519) (I := I_b519) (fuel := 4000) [] hen ei_196 (e2_fa (hh _ hm_b67) (e2_fa ((cs_b179 hen l).mono (by decide)) (e2_fa ((cs_b233 hen l).mono (by decide)) (e2_fa ((cs_b254 hen l).mono (by decide)) (e2_fa ((cs_b257 hen l).mono (by decide)) (e2_fa ((cs_b386 hen l).mono (by decide)) (e2_fa ((cs_b490 hen l).mono (by decide)) e2_fz))))))) (e2_fa ein_179 e2_fz) (by decide) co_b519 ex2_196 ck_b519
/-! b520 X10_readGlyph -/
def as_b520 : List ev_V := [(2, 83, 0)]
def E_b520 : e2_E := [(2147483648, 2147583648, 0, 0), (2147483648, 2147483656, 1, 0), (2147483648, 2147485249, 2, 0)]
def bn3227 : e2_Q7 := (bn517, bn2976)
def bn3228 : e2_Q8 := (bn1938, bn3227)
noncomputable def f_b520 : ev_H := (bn3228 : e2_Q8)
def bn3229 : e2_Q7 := (bn517, bn2979)
def bn3230 : e2_Q8 := (bn2052, bn3229)
noncomputable def q_b520_0 : ev_H := (bn3230 : e2_Q8)
noncomputable def rs_b520 : e2_Rs := [((9, 0, 0), q_b520_0)]
noncomputable def s_b520 : e2_Sm := (196, as_b520, E_b520, f_b520, rs_b520)
noncomputable def S_b520 : List e2_Sm := [s_b75, s_b187, s_b245, s_b261, s_b264, s_b388, s_b492]
noncomputable def I_b520 : List e2_In := [(179, 3, e2x_179)]
set_option maxRecDepth 1000000 in
theorem ck_b520 : e2_run (e2_cal S_b520 I_b520 4000 1) (e2_fin rs_b520) e2x_196 (fun _ => false) (fun _ _ _ _ _ => false) 4000 (e2_seek e2x_196 0) (e2_al 2 as_b520) [] E_b520 f_b520 = true := by decide +kernel
set_option maxRecDepth 1000000 in
theorem co_b520 : e2_okSB E_b520.length as_b520 f_b520 rs_b520 = true := by decide +kernel
theorem cs_b520 (hen : en_ok) (l : Launch) (hh : e2_hand_b l) : e2_smOk l 62 s_b520 := e2_con0 (H := 60) (n := 1) (C := evd_196) (S := S_b520) (I := I_b520) (fuel := 4000) [] hen ei_196 (e2_fa (hh _ hm_b75) (e2_fa ((cs_b187 hen l).mono (by decide)) (e2_fa ((cs_b245 hen l).mono (by decide)) (e2_fa ((cs_b261 hen l).mono (by decide)) (e2_fa ((cs_b264 hen l).mono (by decide)) (e2_fa ((cs_b388 hen l).mono (by decide)) (e2_fa ((cs_b492 hen l).mono (by decide)) e2_fz))))))) (e2_fa ein_179 e2_fz) (by decide) co_b520 ex2_196 ck_b520
/-! b521 X10_readGlyph -/
def as_b521 : List ev_V := [(2, 83, 0)]
def E_b521 : e2_E := [(2147483648, 2147583648, 0, 0), (2147483648, 2147483656, 1, 0), (2147483648, 2147485249, 2, 0)]
def bn3231 : e2_Q7 := (bn517, bn2985)
def bn3232 : e2_Q8 := (bn1938, bn3231)
noncomputable def f_b521 : ev_H := (bn3232 : e2_Q8)
def bn3233 : e2_Q7 := (bn517, bn2988)
def bn3234 : e2_Q8 := (bn2052, bn3233)
noncomputable def q_b521_0 : ev_H := (bn3234 : e2_Q8)
noncomputable def rs_b521 : e2_Rs := [((9, 0, 0), q_b521_0)]
noncomputable def s_b521 : e2_Sm := (196, as_b521, E_b521, f_b521, rs_b521)
noncomputable def S_b521 : List e2_Sm := [s_b68, s_b185, s_b234, s_b268, s_b271, s_b390, s_b494]
noncomputable def I_b521 : List e2_In := [(179, 3, e2x_179)]
set_option maxRecDepth 1000000 in
theorem ck_b521 : e2_run (e2_cal S_b521 I_b521 4000 1) (e2_fin rs_b521) e2x_196 (fun _ => false) (fun _ _ _ _ _ => false) 4000 (e2_seek e2x_196 0) (e2_al 2 as_b521) [] E_b521 f_b521 = true := by decide +kernel
set_option maxRecDepth 1000000 in
theorem co_b521 : e2_okSB E_b521.length as_b521 f_b521 rs_b521 = true := by decide +kernel
theorem cs_b521 (hen : en_ok) (l : Launch) (hh : e2_hand_b l) : e2_smOk l 62 s_b521 := e2_con0 (H := 60) (n := 1) (C := evd_196) (S := S_b521) (I := I_b521) (fuel := 4000) [] hen ei_196 (e2_fa (hh _ hm_b68) (e2_fa ((cs_b185 hen l).mono (by decide)) (e2_fa ((cs_b234 hen l).mono (by decide)) (e2_fa ((cs_b268 hen l).mono (by decide)) (e2_fa ((cs_b271 hen l).mono (by decide)) (e2_fa ((cs_b390 hen l).mono (by decide)) (e2_fa ((cs_b494 hen l).mono (by decide)) e2_fz))))))) (e2_fa ein_179 e2_fz) (by decide) co_b521 ex2_196 ck_b521
/-! b522 X10_readGlyph -/
def as_b522 : List ev_V := [(2, 83, 0)]
def E_b522 : e2_E := [(2147483648, 2147583648, 0, 0), (2147483648, 2147483656, 1, 0), (2147483648, 2147485249, 2, 0)]
def bn3235 : e2_Q7 := (bn517, bn2994)
def bn3236 : e2_Q8 := (bn1938, bn3235)
noncomputable def f_b522 : ev_H := (bn3236 : e2_Q8)
def bn3237 : e2_Q7 := (bn517, bn2997)
def bn3238 : e2_Q8 := (bn2052, bn3237)
noncomputable def q_b522_0 : ev_H := (bn3238 : e2_Q8)
noncomputable def rs_b522 : e2_Rs := [((9, 0, 0), q_b522_0)]
noncomputable def s_b522 : e2_Sm := (196, as_b522, E_b522, f_b522, rs_b522)
noncomputable def S_b522 : List e2_Sm := [s_b66, s_b178, s_b232, s_b275, s_b278, s_b392, s_b496]
noncomputable def I_b522 : List e2_In := [(179, 3, e2x_179)]
set_option maxRecDepth 1000000 in
theorem ck_b522 : e2_run (e2_cal S_b522 I_b522 4000 1) (e2_fin rs_b522) e2x_196 (fun _ => false) (fun _ _ _ _ _ => false) 4000 (e2_seek e2x_196 0) (e2_al 2 as_b522) [] E_b522 f_b522 = true := by decide +kernel
set_option maxRecDepth 1000000 in
theorem co_b522 : e2_okSB E_b522.length as_b522 f_b522 rs_b522 = true := by decide +kernel
theorem cs_b522 (hen : en_ok) (l : Launch) (hh : e2_hand_b l) : e2_smOk l 62 s_b522 := e2_con0 (H := 60) (n := 1) (C := evd_196) (S := S_b522) (I := I_b522) (fuel := 4000) [] hen ei_196 (e2_fa (hh _ hm_b66) (e2_fa ((cs_b178 hen l).mono (by decide)) (e2_fa ((cs_b232 hen l).mono (by decide)) (e2_fa ((cs_b275 hen l).mono (by decide)) (e2_fa ((cs_b278 hen l).mono (by decide)) (e2_fa ((cs_b392 hen l).mono (by decide)) (e2_fa ((cs_b496 hen l).mono (by decide)) e2_fz))))))) (e2_fa ein_179 e2_fz) (by decide) co_b522 ex2_196 ck_b522
/-! b523 X10_readGlyph -/
def as_b523 : List ev_V := [(2, 83, 0)]
def E_b523 : e2_E := [(2147483648, 2147583648, 0, 0), (2147483648, 2147483656, 1, 0), (2147483648, 2147485249, 2, 0)]
def bn3239 : e2_Q7 := (bn1961, bn3021)
def bn3240 : e2_Q8 := (bn1938, bn3239)
noncomputable def f_b523 : ev_H := (bn3240 : e2_Q8)
def bn3241 : e2_Q7 := (bn2075, bn3024)
def bn3242 : e2_Q8 := (bn2052, bn3241)
noncomputable def q_b523_0 : ev_H := (bn3242 : e2_Q8)
def bn3243 : e2_Q7 := (bn1961, bn3027)
def bn3244 : e2_Q8 := (bn2052, bn3243)
noncomputable def q_b523_1 : ev_H := (bn3244 : e2_Q8)
def bn3245 : e2_Q7 := (bn2075, bn3030)
def bn3246 : e2_Q8 := (bn2052, bn3245)
noncomputable def q_b523_2 : ev_H := (bn3246 : e2_Q8)
def bn3247 : e2_Q7 := (bn2075, bn3033)
def bn3248 : e2_Q8 := (bn2052, bn3247)
noncomputable def q_b523_3 : ev_H := (bn3248 : e2_Q8)
def bn3249 : e2_Q7 := (bn2075, bn3036)
def bn3250 : e2_Q8 := (bn2052, bn3249)
noncomputable def q_b523_4 : ev_H := (bn3250 : e2_Q8)
def bn3251 : e2_Q7 := (bn2075, bn3039)
def bn3252 : e2_Q8 := (bn2052, bn3251)
noncomputable def q_b523_5 : ev_H := (bn3252 : e2_Q8)
def bn3253 : e2_Q7 := (bn2075, bn3042)
def bn3254 : e2_Q8 := (bn2052, bn3253)
noncomputable def q_b523_6 : ev_H := (bn3254 : e2_Q8)
def bn3255 : e2_Q7 := (bn2075, bn3045)
def bn3256 : e2_Q8 := (bn2052, bn3255)
noncomputable def q_b523_7 : ev_H := (bn3256 : e2_Q8)
def bn3257 : e2_Q7 := (bn2075, bn2970)
def bn3258 : e2_Q8 := (bn2052, bn3257)
noncomputable def q_b523_8 : ev_H := (bn3258 : e2_Q8)
def bn3259 : e2_Q7 := (bn2075, bn2997)
def bn3260 : e2_Q8 := (bn2052, bn3259)
noncomputable def q_b523_9 : ev_H := (bn3260 : e2_Q8)
def bn3261 : e2_Q7 := (bn1961, bn3052)
def bn3262 : e2_Q8 := (bn2052, bn3261)
noncomputable def q_b523_10 : ev_H := (bn3262 : e2_Q8)
noncomputable def rs_b523 : e2_Rs := [((9, 0, 0), q_b523_0), ((9, 0, 0), q_b523_1), ((9, 0, 0), q_b523_2), ((9, 0, 0), q_b523_3), ((9, 0, 0), q_b523_4), ((9, 0, 0), q_b523_5), ((9, 0, 0), q_b523_6), ((9, 0, 0), q_b523_7), ((9, 0, 0), q_b523_8), ((9, 0, 0), q_b523_9), ((9, 0, 0), q_b523_10)]
noncomputable def s_b523 : e2_Sm := (196, as_b523, E_b523, f_b523, rs_b523)
noncomputable def S_b523 : List e2_Sm := [s_b69, s_b70, s_b71, s_b72, s_b73, s_b74, s_b181, s_b183, s_b184, s_b186, s_b188, s_b190, s_b191, s_b192, s_b232, s_b233, s_b235, s_b236, s_b237, s_b238, s_b239, s_b240, s_b241, s_b242, s_b243, s_b244, s_b257, s_b278, s_b282, s_b285, s_b286, s_b287, s_b288, s_b289, s_b290, s_b291, s_b292, s_b293, s_b294, s_b295, s_b337, s_b345, s_b347, s_b394, s_b490, s_b496, s_b498, s_b499, s_b500, s_b501, s_b502, s_b503, s_b504]
noncomputable def I_b523 : List e2_In := [(179, 3, e2x_179)]
set_option maxRecDepth 1000000 in
theorem ck_b523 : e2_run (e2_cal S_b523 I_b523 4000 1) (e2_fin rs_b523) e2x_196 (fun _ => false) (fun _ _ _ _ _ => false) 4000 (e2_seek e2x_196 0) (e2_al 2 as_b523) [] E_b523 f_b523 = true := by decide +kernel
set_option maxRecDepth 1000000 in
theorem co_b523 : e2_okSB E_b523.length as_b523 f_b523 rs_b523 = true := by decide +kernel
theorem cs_b523 (hen : en_ok) (l : Launch) (hh : e2_hand_b l) : e2_smOk l 62 s_b523 := e2_con0 (H := 60) (n := 1) (C := evd_196) (S := S_b523) (I := I_b523) (fuel := 4000) [] hen ei_196 (e2_fa (hh _ hm_b69) (e2_fa (hh _ hm_b70) (e2_fa (hh _ hm_b71) (e2_fa (hh _ hm_b72) (e2_fa (hh _ hm_b73) (e2_fa (hh _ hm_b74) (e2_fa ((cs_b181 hen l).mono (by decide)) (e2_fa ((cs_b183 hen l).mono (by decide)) (e2_fa ((cs_b184 hen l).mono (by decide)) (e2_fa ((cs_b186 hen l).mono (by decide)) (e2_fa ((cs_b188 hen l).mono (by decide)) (e2_fa ((cs_b190 hen l).mono (by decide)) (e2_fa ((cs_b191 hen l).mono (by decide)) (e2_fa ((cs_b192 hen l).mono (by decide)) (e2_fa ((cs_b232 hen l).mono (by decide)) (e2_fa ((cs_b233 hen l).mono (by decide)) (e2_fa ((cs_b235 hen l).mono (by decide)) (e2_fa ((cs_b236 hen l).mono (by decide)) (e2_fa ((cs_b237 hen l).mono (by decide)) (e2_fa ((cs_b238 hen l).mono (by decide)) (e2_fa ((cs_b239 hen l).mono (by decide)) (e2_fa ((cs_b240 hen l).mono (by decide)) (e2_fa ((cs_b241 hen l).mono (by decide)) (e2_fa ((cs_b242 hen l).mono (by decide)) (e2_fa ((cs_b243 hen l).mono (by decide)) (e2_fa ((cs_b244 hen l).mono (by decide)) (e2_fa ((cs_b257 hen l).mono (by decide)) (e2_fa ((cs_b278 hen l).mono (by decide)) (e2_fa ((cs_b282 hen l).mono (by decide)) (e2_fa ((cs_b285 hen l).mono (by decide)) (e2_fa ((cs_b286 hen l).mono (by decide)) (e2_fa ((cs_b287 hen l).mono (by decide)) (e2_fa ((cs_b288 hen l).mono (by decide)) (e2_fa ((cs_b289 hen l).mono (by decide)) (e2_fa ((cs_b290 hen l).mono (by decide)) (e2_fa ((cs_b291 hen l).mono (by decide)) (e2_fa ((cs_b292 hen l).mono (by decide)) (e2_fa ((cs_b293 hen l).mono (by decide)) (e2_fa ((cs_b294 hen l).mono (by decide)) (e2_fa ((cs_b295 hen l).mono (by decide)) (e2_fa ((cs_b337 hen l).mono (by decide)) (e2_fa ((cs_b345 hen l).mono (by decide)) (e2_fa ((cs_b347 hen l).mono (by decide)) (e2_fa ((cs_b394 hen l).mono (by decide)) (e2_fa ((cs_b490 hen l).mono (by decide)) (e2_fa ((cs_b496 hen l).mono (by decide)) (e2_fa ((cs_b498 hen l).mono (by decide)) (e2_fa ((cs_b499 hen l).mono (by decide)) (e2_fa ((cs_b500 hen l).mono (by decide)) (e2_fa ((cs_b501 hen l).mono (by decide)) (e2_fa ((cs_b502 hen l).mono (by decide)) (e2_fa ((cs_b503 hen l).mono (by decide)) (e2_fa ((cs_b504 hen l).mono (by decide)) e2_fz))))))))))))))))))))))))))))))))))))))))))))))))))))) (e2_fa ein_179 e2_fz) (by decide) co_b523 ex2_196 ck_b523
/-! b524 X10_readLine -/
def as_b524 : List ev_V := [(2, 83, 0)]
def E_b524 : e2_E := [(2147483648, 2147583648, 0, 0), (2147483648, 2147483656, 1, 0), (2147483648, 2147485249, 2, 0)]
def bn3263 : e2_Q7 := (bn2026, bn3056)
def bn3264 : e2_Q8 := (bn2020, bn3263)
noncomputable def f_b524 : ev_H := (bn3264 : e2_Q8)
noncomputable def q_b524_0 : ev_H := (bn2120 : e2_Q8)
noncomputable def q_b524_1 : ev_H := (bn2122 : e2_Q8)
noncomputable def q_b524_2 : ev_H := (bn2124 : e2_Q8)
noncomputable def q_b524_3 : ev_H := (bn2126 : e2_Q8)
noncomputable def q_b524_4 : ev_H := (bn2028 : e2_Q8)
noncomputable def q_b524_5 : ev_H := (bn2030 : e2_Q8)
noncomputable def q_b524_6 : ev_H := (bn2032 : e2_Q8)
noncomputable def q_b524_7 : ev_H := (bn2034 : e2_Q8)
noncomputable def q_b524_8 : ev_H := (bn2036 : e2_Q8)
noncomputable def q_b524_9 : ev_H := (bn2128 : e2_Q8)
def bn3265 : e2_Q7 := (bn2026, bn3059)
def bn3266 : e2_Q8 := (bn2020, bn3265)
noncomputable def q_b524_10 : ev_H := (bn3266 : e2_Q8)
def bn3267 : e2_Q7 := (bn2026, bn3062)
def bn3268 : e2_Q8 := (bn2134, bn3267)
noncomputable def q_b524_11 : ev_H := (bn3268 : e2_Q8)
def bn3269 : e2_Q7 := (bn2026, bn3065)
def bn3270 : e2_Q8 := (bn2134, bn3269)
noncomputable def q_b524_12 : ev_H := (bn3270 : e2_Q8)
def bn3271 : e2_Q7 := (bn2026, bn3068)
def bn3272 : e2_Q8 := (bn2134, bn3271)
noncomputable def q_b524_13 : ev_H := (bn3272 : e2_Q8)
def bn3273 : e2_Q8 := (bn2134, bn3265)
noncomputable def q_b524_14 : ev_H := (bn3273 : e2_Q8)
def bn3274 : e2_Q7 := (bn2140, bn3072)
def bn3275 : e2_Q8 := (bn2134, bn3274)
noncomputable def q_b524_15 : ev_H := (bn3275 : e2_Q8)
def bn3276 : e2_Q7 := (bn2140, bn3075)
def bn3277 : e2_Q8 := (bn2134, bn3276)
noncomputable def q_b524_16 : ev_H := (bn3277 : e2_Q8)
def bn3278 : e2_Q7 := (bn2140, bn3078)
def bn3279 : e2_Q8 := (bn2134, bn3278)
noncomputable def q_b524_17 : ev_H := (bn3279 : e2_Q8)
def bn3280 : e2_Q7 := (bn2140, bn3081)
def bn3281 : e2_Q8 := (bn2134, bn3280)
noncomputable def q_b524_18 : ev_H := (bn3281 : e2_Q8)
def bn3282 : e2_Q7 := (bn2140, bn3084)
def bn3283 : e2_Q8 := (bn2134, bn3282)
noncomputable def q_b524_19 : ev_H := (bn3283 : e2_Q8)
def bn3284 : e2_Q7 := (bn2026, bn3087)
def bn3285 : e2_Q8 := (bn2134, bn3284)
noncomputable def q_b524_20 : ev_H := (bn3285 : e2_Q8)
def bn3286 : e2_Q7 := (bn2026, bn3090)
def bn3287 : e2_Q8 := (bn2134, bn3286)
noncomputable def q_b524_21 : ev_H := (bn3287 : e2_Q8)
noncomputable def rs_b524 : e2_Rs := [((9, 0, 0), q_b524_0), ((9, 0, 0), q_b524_1), ((9, 0, 0), q_b524_2), ((9, 0, 0), q_b524_3), ((9, 0, 0), q_b524_4), ((9, 0, 0), q_b524_5), ((9, 0, 0), q_b524_6), ((9, 0, 0), q_b524_7), ((9, 0, 0), q_b524_8), ((9, 0, 0), q_b524_9), ((9, 0, 0), q_b524_10), ((9, 0, 0), q_b524_11), ((9, 0, 0), q_b524_12), ((9, 0, 0), q_b524_13), ((9, 0, 0), q_b524_14), ((9, 0, 0), q_b524_15), ((9, 0, 0), q_b524_16), ((9, 0, 0), q_b524_17), ((9, 0, 0), q_b524_18), ((9, 0, 0), q_b524_19), ((9, 0, 0), q_b524_20), ((9, 0, 0), q_b524_21)]
noncomputable def s_b524 : e2_Sm := (187, as_b524, E_b524, f_b524, rs_b524)
noncomputable def S_b524 : List e2_Sm := [s_b173, s_b178, s_b179, s_b180, s_b181, s_b182, s_b183, s_b184, s_b185, s_b186, s_b187, s_b188, s_b189, s_b190, s_b191, s_b192, s_b193, s_b194, s_b195, s_b196, s_b197, s_b198, s_b199, s_b217, s_b218, s_b219, s_b220, s_b221, s_b249, s_b250, s_b251, s_b252, s_b253, s_b332, s_b333, s_b334, s_b335, s_b336, s_b338, s_b341, s_b344, s_b346, s_b348, s_b396, s_b397, s_b398, s_b399, s_b402, s_b519, s_b520, s_b521, s_b522, s_b523]
noncomputable def I_b524 : List e2_In := [(170, 2, e2x_170), (173, 3, e2x_173), (174, 1, e2x_174), (178, 2, e2x_178), (179, 3, e2x_179), (180, 1, e2x_180), (186, 1, e2x_186)]
set_option maxRecDepth 1000000 in
theorem ck_b524 : e2_run (e2_cal S_b524 I_b524 4000 2) (e2_fin rs_b524) e2x_187 (fun _ => false) (fun _ _ _ _ _ => false) 4000 (e2_seek e2x_187 0) (e2_al 3 as_b524) [] E_b524 f_b524 = true := by decide +kernel
set_option maxRecDepth 1000000 in
theorem co_b524 : e2_okSB E_b524.length as_b524 f_b524 rs_b524 = true := by decide +kernel
theorem cs_b524 (hen : en_ok) (l : Launch) (hh : e2_hand_b l) : e2_smOk l 65 s_b524 := e2_con0 (H := 62) (n := 2) (C := evd_187) (S := S_b524) (I := I_b524) (fuel := 4000) [] hen ei_187 (e2_fa ((cs_b173 hen l).mono (by decide)) (e2_fa ((cs_b178 hen l).mono (by decide)) (e2_fa ((cs_b179 hen l).mono (by decide)) (e2_fa ((cs_b180 hen l).mono (by decide)) (e2_fa ((cs_b181 hen l).mono (by decide)) (e2_fa ((cs_b182 hen l).mono (by decide)) (e2_fa ((cs_b183 hen l).mono (by decide)) (e2_fa ((cs_b184 hen l).mono (by decide)) (e2_fa ((cs_b185 hen l).mono (by decide)) (e2_fa ((cs_b186 hen l).mono (by decide)) (e2_fa ((cs_b187 hen l).mono (by decide)) (e2_fa ((cs_b188 hen l).mono (by decide)) (e2_fa ((cs_b189 hen l).mono (by decide)) (e2_fa ((cs_b190 hen l).mono (by decide)) (e2_fa ((cs_b191 hen l).mono (by decide)) (e2_fa ((cs_b192 hen l).mono (by decide)) (e2_fa ((cs_b193 hen l).mono (by decide)) (e2_fa ((cs_b194 hen l).mono (by decide)) (e2_fa ((cs_b195 hen l).mono (by decide)) (e2_fa ((cs_b196 hen l).mono (by decide)) (e2_fa ((cs_b197 hen l).mono (by decide)) (e2_fa ((cs_b198 hen l).mono (by decide)) (e2_fa ((cs_b199 hen l).mono (by decide)) (e2_fa ((cs_b217 hen l).mono (by decide)) (e2_fa ((cs_b218 hen l).mono (by decide)) (e2_fa ((cs_b219 hen l).mono (by decide)) (e2_fa ((cs_b220 hen l).mono (by decide)) (e2_fa ((cs_b221 hen l).mono (by decide)) (e2_fa ((cs_b249 hen l).mono (by decide)) (e2_fa ((cs_b250 hen l).mono (by decide)) (e2_fa ((cs_b251 hen l).mono (by decide)) (e2_fa ((cs_b252 hen l).mono (by decide)) (e2_fa ((cs_b253 hen l).mono (by decide)) (e2_fa ((cs_b332 hen l hh).mono (by decide)) (e2_fa ((cs_b333 hen l hh).mono (by decide)) (e2_fa ((cs_b334 hen l hh).mono (by decide)) (e2_fa ((cs_b335 hen l hh).mono (by decide)) (e2_fa ((cs_b336 hen l hh).mono (by decide)) (e2_fa ((cs_b338 hen l).mono (by decide)) (e2_fa ((cs_b341 hen l).mono (by decide)) (e2_fa ((cs_b344 hen l).mono (by decide)) (e2_fa ((cs_b346 hen l).mono (by decide)) (e2_fa ((cs_b348 hen l).mono (by decide)) (e2_fa ((cs_b396 hen l).mono (by decide)) (e2_fa ((cs_b397 hen l).mono (by decide)) (e2_fa ((cs_b398 hen l).mono (by decide)) (e2_fa ((cs_b399 hen l).mono (by decide)) (e2_fa ((cs_b402 hen l).mono (by decide)) (e2_fa (cs_b519 hen l hh) (e2_fa (cs_b520 hen l hh) (e2_fa (cs_b521 hen l hh) (e2_fa (cs_b522 hen l hh) (e2_fa (cs_b523 hen l hh) e2_fz))))))))))))))))))))))))))))))))))))))))))))))))))))) (e2_fa ein_170 (e2_fa ein_173 (e2_fa ein_174 (e2_fa ein_178 (e2_fa ein_179 (e2_fa ein_180 (e2_fa ein_186 e2_fz))))))) (by decide) co_b524 ex2_187 ck_b524
/-! b525 X10_readGlyph -/
def as_b525 : List ev_V := [(2, 83, 0)]
def E_b525 : e2_E := [(2147483648, 2147583648, 0, 0), (2147483648, 2147483656, 1, 0), (2147483648, 2147485249, 2, 0)]
def bn3288 : e2_Q7 := (bn549, bn2967)
def bn3289 : e2_Q8 := (bn2052, bn3288)
noncomputable def f_b525 : ev_H := (bn3289 : e2_Q8)
def bn3290 : e2_Q7 := (bn549, bn2970)
def bn3291 : e2_Q8 := (bn2166, bn3290)
noncomputable def q_b525_0 : ev_H := (bn3291 : e2_Q8)
noncomputable def rs_b525 : e2_Rs := [((9, 0, 0), q_b525_0)]
noncomputable def s_b525 : e2_Sm := (196, as_b525, E_b525, f_b525, rs_b525)
noncomputable def S_b525 : List e2_Sm := [s_b87, s_b179, s_b233, s_b254, s_b257, s_b404, s_b490]
noncomputable def I_b525 : List e2_In := [(179, 3, e2x_179)]
set_option maxRecDepth 1000000 in
theorem ck_b525 : e2_run (e2_cal S_b525 I_b525 4000 1) (e2_fin rs_b525) e2x_196 (fun _ => false) (fun _ _ _ _ _ => false) 4000 (e2_seek e2x_196 0) (e2_al 2 as_b525) [] E_b525 f_b525 = true := by decide +kernel
set_option maxRecDepth 1000000 in
theorem co_b525 : e2_okSB E_b525.length as_b525 f_b525 rs_b525 = true := by decide +kernel
theorem cs_b525 (hen : en_ok) (l : Launch) (hh : e2_hand_b l) : e2_smOk l 62 s_b525 := e2_con0 (H := 60) (n := 1) (C := evd_196) (S := S_b525) (I := I_b525) (fuel := 4000) [] hen ei_196 (e2_fa (hh _ hm_b87) (e2_fa ((cs_b179 hen l).mono (by decide)) (e2_fa ((cs_b233 hen l).mono (by decide)) (e2_fa ((cs_b254 hen l).mono (by decide)) (e2_fa ((cs_b257 hen l).mono (by decide)) (e2_fa ((cs_b404 hen l).mono (by decide)) (e2_fa ((cs_b490 hen l).mono (by decide)) e2_fz))))))) (e2_fa ein_179 e2_fz) (by decide) co_b525 ex2_196 ck_b525
/-! b526 X10_readGlyph -/
def as_b526 : List ev_V := [(2, 83, 0)]
def E_b526 : e2_E := [(2147483648, 2147583648, 0, 0), (2147483648, 2147483656, 1, 0), (2147483648, 2147485249, 2, 0)]
def bn3292 : e2_Q7 := (bn549, bn2976)
def bn3293 : e2_Q8 := (bn2052, bn3292)
noncomputable def f_b526 : ev_H := (bn3293 : e2_Q8)
def bn3294 : e2_Q7 := (bn549, bn2979)
def bn3295 : e2_Q8 := (bn2166, bn3294)
noncomputable def q_b526_0 : ev_H := (bn3295 : e2_Q8)
noncomputable def rs_b526 : e2_Rs := [((9, 0, 0), q_b526_0)]
noncomputable def s_b526 : e2_Sm := (196, as_b526, E_b526, f_b526, rs_b526)
noncomputable def S_b526 : List e2_Sm := [s_b95, s_b187, s_b245, s_b261, s_b264, s_b406, s_b492]
noncomputable def I_b526 : List e2_In := [(179, 3, e2x_179)]
set_option maxRecDepth 1000000 in
theorem ck_b526 : e2_run (e2_cal S_b526 I_b526 4000 1) (e2_fin rs_b526) e2x_196 (fun _ => false) (fun _ _ _ _ _ => false) 4000 (e2_seek e2x_196 0) (e2_al 2 as_b526) [] E_b526 f_b526 = true := by decide +kernel
set_option maxRecDepth 1000000 in
theorem co_b526 : e2_okSB E_b526.length as_b526 f_b526 rs_b526 = true := by decide +kernel
theorem cs_b526 (hen : en_ok) (l : Launch) (hh : e2_hand_b l) : e2_smOk l 62 s_b526 := e2_con0 (H := 60) (n := 1) (C := evd_196) (S := S_b526) (I := I_b526) (fuel := 4000) [] hen ei_196 (e2_fa (hh _ hm_b95) (e2_fa ((cs_b187 hen l).mono (by decide)) (e2_fa ((cs_b245 hen l).mono (by decide)) (e2_fa ((cs_b261 hen l).mono (by decide)) (e2_fa ((cs_b264 hen l).mono (by decide)) (e2_fa ((cs_b406 hen l).mono (by decide)) (e2_fa ((cs_b492 hen l).mono (by decide)) e2_fz))))))) (e2_fa ein_179 e2_fz) (by decide) co_b526 ex2_196 ck_b526
/-! b527 X10_readGlyph -/
def as_b527 : List ev_V := [(2, 83, 0)]
def E_b527 : e2_E := [(2147483648, 2147583648, 0, 0), (2147483648, 2147483656, 1, 0), (2147483648, 2147485249, 2, 0)]
def bn3296 : e2_Q7 := (bn549, bn2985)
def bn3297 : e2_Q8 := (bn2052, bn3296)
noncomputable def f_b527 : ev_H := (bn3297 : e2_Q8)
def bn3298 : e2_Q7 := (bn549, bn2988)
def bn3299 : e2_Q8 := (bn2166, bn3298)
noncomputable def q_b527_0 : ev_H := (bn3299 : e2_Q8)
noncomputable def rs_b527 : e2_Rs := [((9, 0, 0), q_b527_0)]
noncomputable def s_b527 : e2_Sm := (196, as_b527, E_b527, f_b527, rs_b527)
noncomputable def S_b527 : List e2_Sm := [s_b88, s_b185, s_b234, s_b268, s_b271, s_b408, s_b494]
noncomputable def I_b527 : List e2_In := [(179, 3, e2x_179)]
set_option maxRecDepth 1000000 in
theorem ck_b527 : e2_run (e2_cal S_b527 I_b527 4000 1) (e2_fin rs_b527) e2x_196 (fun _ => false) (fun _ _ _ _ _ => false) 4000 (e2_seek e2x_196 0) (e2_al 2 as_b527) [] E_b527 f_b527 = true := by decide +kernel
set_option maxRecDepth 1000000 in
theorem co_b527 : e2_okSB E_b527.length as_b527 f_b527 rs_b527 = true := by decide +kernel
theorem cs_b527 (hen : en_ok) (l : Launch) (hh : e2_hand_b l) : e2_smOk l 62 s_b527 := e2_con0 (H := 60) (n := 1) (C := evd_196) (S := S_b527) (I := I_b527) (fuel := 4000) [] hen ei_196 (e2_fa (hh _ hm_b88) (e2_fa ((cs_b185 hen l).mono (by decide)) (e2_fa ((cs_b234 hen l).mono (by decide)) (e2_fa ((cs_b268 hen l).mono (by decide)) (e2_fa ((cs_b271 hen l).mono (by decide)) (e2_fa ((cs_b408 hen l).mono (by decide)) (e2_fa ((cs_b494 hen l).mono (by decide)) e2_fz))))))) (e2_fa ein_179 e2_fz) (by decide) co_b527 ex2_196 ck_b527
/-! b528 X10_readGlyph -/
def as_b528 : List ev_V := [(2, 83, 0)]
def E_b528 : e2_E := [(2147483648, 2147583648, 0, 0), (2147483648, 2147483656, 1, 0), (2147483648, 2147485249, 2, 0)]
def bn3300 : e2_Q7 := (bn549, bn2994)
def bn3301 : e2_Q8 := (bn2052, bn3300)
noncomputable def f_b528 : ev_H := (bn3301 : e2_Q8)
def bn3302 : e2_Q7 := (bn549, bn2997)
def bn3303 : e2_Q8 := (bn2166, bn3302)
noncomputable def q_b528_0 : ev_H := (bn3303 : e2_Q8)
noncomputable def rs_b528 : e2_Rs := [((9, 0, 0), q_b528_0)]
noncomputable def s_b528 : e2_Sm := (196, as_b528, E_b528, f_b528, rs_b528)
noncomputable def S_b528 : List e2_Sm := [s_b86, s_b178, s_b232, s_b275, s_b278, s_b410, s_b496]
noncomputable def I_b528 : List e2_In := [(179, 3, e2x_179)]
set_option maxRecDepth 1000000 in
theorem ck_b528 : e2_run (e2_cal S_b528 I_b528 4000 1) (e2_fin rs_b528) e2x_196 (fun _ => false) (fun _ _ _ _ _ => false) 4000 (e2_seek e2x_196 0) (e2_al 2 as_b528) [] E_b528 f_b528 = true := by decide +kernel
set_option maxRecDepth 1000000 in
theorem co_b528 : e2_okSB E_b528.length as_b528 f_b528 rs_b528 = true := by decide +kernel
theorem cs_b528 (hen : en_ok) (l : Launch) (hh : e2_hand_b l) : e2_smOk l 62 s_b528 := e2_con0 (H := 60) (n := 1) (C := evd_196) (S := S_b528) (I := I_b528) (fuel := 4000) [] hen ei_196 (e2_fa (hh _ hm_b86) (e2_fa ((cs_b178 hen l).mono (by decide)) (e2_fa ((cs_b232 hen l).mono (by decide)) (e2_fa ((cs_b275 hen l).mono (by decide)) (e2_fa ((cs_b278 hen l).mono (by decide)) (e2_fa ((cs_b410 hen l).mono (by decide)) (e2_fa ((cs_b496 hen l).mono (by decide)) e2_fz))))))) (e2_fa ein_179 e2_fz) (by decide) co_b528 ex2_196 ck_b528
/-! b529 X10_readGlyph -/
def as_b529 : List ev_V := [(2, 83, 0)]
def E_b529 : e2_E := [(2147483648, 2147583648, 0, 0), (2147483648, 2147483656, 1, 0), (2147483648, 2147485249, 2, 0)]
def bn3304 : e2_Q7 := (bn2075, bn3021)
def bn3305 : e2_Q8 := (bn2052, bn3304)
noncomputable def f_b529 : ev_H := (bn3305 : e2_Q8)
def bn3306 : e2_Q7 := (bn2189, bn3024)
def bn3307 : e2_Q8 := (bn2166, bn3306)
noncomputable def q_b529_0 : ev_H := (bn3307 : e2_Q8)
def bn3308 : e2_Q7 := (bn2075, bn3027)
def bn3309 : e2_Q8 := (bn2166, bn3308)
noncomputable def q_b529_1 : ev_H := (bn3309 : e2_Q8)
def bn3310 : e2_Q7 := (bn2189, bn3030)
def bn3311 : e2_Q8 := (bn2166, bn3310)
noncomputable def q_b529_2 : ev_H := (bn3311 : e2_Q8)
def bn3312 : e2_Q7 := (bn2189, bn3033)
def bn3313 : e2_Q8 := (bn2166, bn3312)
noncomputable def q_b529_3 : ev_H := (bn3313 : e2_Q8)
def bn3314 : e2_Q7 := (bn2189, bn3036)
def bn3315 : e2_Q8 := (bn2166, bn3314)
noncomputable def q_b529_4 : ev_H := (bn3315 : e2_Q8)
def bn3316 : e2_Q7 := (bn2189, bn3039)
def bn3317 : e2_Q8 := (bn2166, bn3316)
noncomputable def q_b529_5 : ev_H := (bn3317 : e2_Q8)
def bn3318 : e2_Q7 := (bn2189, bn3042)
def bn3319 : e2_Q8 := (bn2166, bn3318)
noncomputable def q_b529_6 : ev_H := (bn3319 : e2_Q8)
def bn3320 : e2_Q7 := (bn2189, bn3045)
def bn3321 : e2_Q8 := (bn2166, bn3320)
noncomputable def q_b529_7 : ev_H := (bn3321 : e2_Q8)
def bn3322 : e2_Q7 := (bn2189, bn2970)
def bn3323 : e2_Q8 := (bn2166, bn3322)
noncomputable def q_b529_8 : ev_H := (bn3323 : e2_Q8)
def bn3324 : e2_Q7 := (bn2189, bn2997)
def bn3325 : e2_Q8 := (bn2166, bn3324)
noncomputable def q_b529_9 : ev_H := (bn3325 : e2_Q8)
def bn3326 : e2_Q7 := (bn2075, bn3052)
def bn3327 : e2_Q8 := (bn2166, bn3326)
noncomputable def q_b529_10 : ev_H := (bn3327 : e2_Q8)
noncomputable def rs_b529 : e2_Rs := [((9, 0, 0), q_b529_0), ((9, 0, 0), q_b529_1), ((9, 0, 0), q_b529_2), ((9, 0, 0), q_b529_3), ((9, 0, 0), q_b529_4), ((9, 0, 0), q_b529_5), ((9, 0, 0), q_b529_6), ((9, 0, 0), q_b529_7), ((9, 0, 0), q_b529_8), ((9, 0, 0), q_b529_9), ((9, 0, 0), q_b529_10)]
noncomputable def s_b529 : e2_Sm := (196, as_b529, E_b529, f_b529, rs_b529)
noncomputable def S_b529 : List e2_Sm := [s_b89, s_b90, s_b91, s_b92, s_b93, s_b94, s_b181, s_b183, s_b184, s_b186, s_b188, s_b190, s_b191, s_b192, s_b232, s_b233, s_b235, s_b236, s_b237, s_b238, s_b239, s_b240, s_b241, s_b242, s_b243, s_b244, s_b257, s_b278, s_b282, s_b285, s_b286, s_b287, s_b288, s_b289, s_b290, s_b291, s_b292, s_b293, s_b294, s_b295, s_b337, s_b345, s_b347, s_b412, s_b490, s_b496, s_b498, s_b499, s_b500, s_b501, s_b502, s_b503, s_b504]
noncomputable def I_b529 : List e2_In := [(179, 3, e2x_179)]
set_option maxRecDepth 1000000 in
theorem ck_b529 : e2_run (e2_cal S_b529 I_b529 4000 1) (e2_fin rs_b529) e2x_196 (fun _ => false) (fun _ _ _ _ _ => false) 4000 (e2_seek e2x_196 0) (e2_al 2 as_b529) [] E_b529 f_b529 = true := by decide +kernel
set_option maxRecDepth 1000000 in
theorem co_b529 : e2_okSB E_b529.length as_b529 f_b529 rs_b529 = true := by decide +kernel
theorem cs_b529 (hen : en_ok) (l : Launch) (hh : e2_hand_b l) : e2_smOk l 62 s_b529 := e2_con0 (H := 60) (n := 1) (C := evd_196) (S := S_b529) (I := I_b529) (fuel := 4000) [] hen ei_196 (e2_fa (hh _ hm_b89) (e2_fa (hh _ hm_b90) (e2_fa (hh _ hm_b91) (e2_fa (hh _ hm_b92) (e2_fa (hh _ hm_b93) (e2_fa (hh _ hm_b94) (e2_fa ((cs_b181 hen l).mono (by decide)) (e2_fa ((cs_b183 hen l).mono (by decide)) (e2_fa ((cs_b184 hen l).mono (by decide)) (e2_fa ((cs_b186 hen l).mono (by decide)) (e2_fa ((cs_b188 hen l).mono (by decide)) (e2_fa ((cs_b190 hen l).mono (by decide)) (e2_fa ((cs_b191 hen l).mono (by decide)) (e2_fa ((cs_b192 hen l).mono (by decide)) (e2_fa ((cs_b232 hen l).mono (by decide)) (e2_fa ((cs_b233 hen l).mono (by decide)) (e2_fa ((cs_b235 hen l).mono (by decide)) (e2_fa ((cs_b236 hen l).mono (by decide)) (e2_fa ((cs_b237 hen l).mono (by decide)) (e2_fa ((cs_b238 hen l).mono (by decide)) (e2_fa ((cs_b239 hen l).mono (by decide)) (e2_fa ((cs_b240 hen l).mono (by decide)) (e2_fa ((cs_b241 hen l).mono (by decide)) (e2_fa ((cs_b242 hen l).mono (by decide)) (e2_fa ((cs_b243 hen l).mono (by decide)) (e2_fa ((cs_b244 hen l).mono (by decide)) (e2_fa ((cs_b257 hen l).mono (by decide)) (e2_fa ((cs_b278 hen l).mono (by decide)) (e2_fa ((cs_b282 hen l).mono (by decide)) (e2_fa ((cs_b285 hen l).mono (by decide)) (e2_fa ((cs_b286 hen l).mono (by decide)) (e2_fa ((cs_b287 hen l).mono (by decide)) (e2_fa ((cs_b288 hen l).mono (by decide)) (e2_fa ((cs_b289 hen l).mono (by decide)) (e2_fa ((cs_b290 hen l).mono (by decide)) (e2_fa ((cs_b291 hen l).mono (by decide)) (e2_fa ((cs_b292 hen l).mono (by decide)) (e2_fa ((cs_b293 hen l).mono (by decide)) (e2_fa ((cs_b294 hen l).mono (by decide)) (e2_fa ((cs_b295 hen l).mono (by decide)) (e2_fa ((cs_b337 hen l).mono (by decide)) (e2_fa ((cs_b345 hen l).mono (by decide)) (e2_fa ((cs_b347 hen l).mono (by decide)) (e2_fa ((cs_b412 hen l).mono (by decide)) (e2_fa ((cs_b490 hen l).mono (by decide)) (e2_fa ((cs_b496 hen l).mono (by decide)) (e2_fa ((cs_b498 hen l).mono (by decide)) (e2_fa ((cs_b499 hen l).mono (by decide)) (e2_fa ((cs_b500 hen l).mono (by decide)) (e2_fa ((cs_b501 hen l).mono (by decide)) (e2_fa ((cs_b502 hen l).mono (by decide)) (e2_fa ((cs_b503 hen l).mono (by decide)) (e2_fa ((cs_b504 hen l).mono (by decide)) e2_fz))))))))))))))))))))))))))))))))))))))))))))))))))))) (e2_fa ein_179 e2_fz) (by decide) co_b529 ex2_196 ck_b529
/-! b530 X10_readLine -/
def as_b530 : List ev_V := [(2, 83, 0)]
def E_b530 : e2_E := [(2147483648, 2147583648, 0, 0), (2147483648, 2147483656, 1, 0), (2147483648, 2147485249, 2, 0)]
def bn3328 : e2_Q7 := (bn2140, bn3056)
def bn3329 : e2_Q8 := (bn2134, bn3328)
noncomputable def f_b530 : ev_H := (bn3329 : e2_Q8)
noncomputable def q_b530_0 : ev_H := (bn2234 : e2_Q8)
noncomputable def q_b530_1 : ev_H := (bn2236 : e2_Q8)
noncomputable def q_b530_2 : ev_H := (bn2238 : e2_Q8)
noncomputable def q_b530_3 : ev_H := (bn2240 : e2_Q8)
noncomputable def q_b530_4 : ev_H := (bn2142 : e2_Q8)
noncomputable def q_b530_5 : ev_H := (bn2144 : e2_Q8)
noncomputable def q_b530_6 : ev_H := (bn2146 : e2_Q8)
noncomputable def q_b530_7 : ev_H := (bn2148 : e2_Q8)
noncomputable def q_b530_8 : ev_H := (bn2150 : e2_Q8)
noncomputable def q_b530_9 : ev_H := (bn2242 : e2_Q8)
def bn3330 : e2_Q7 := (bn2140, bn3059)
def bn3331 : e2_Q8 := (bn2134, bn3330)
noncomputable def q_b530_10 : ev_H := (bn3331 : e2_Q8)
def bn3332 : e2_Q7 := (bn2140, bn3062)
def bn3333 : e2_Q8 := (bn2248, bn3332)
noncomputable def q_b530_11 : ev_H := (bn3333 : e2_Q8)
def bn3334 : e2_Q7 := (bn2140, bn3065)
def bn3335 : e2_Q8 := (bn2248, bn3334)
noncomputable def q_b530_12 : ev_H := (bn3335 : e2_Q8)
def bn3336 : e2_Q7 := (bn2140, bn3068)
def bn3337 : e2_Q8 := (bn2248, bn3336)
noncomputable def q_b530_13 : ev_H := (bn3337 : e2_Q8)
def bn3338 : e2_Q8 := (bn2248, bn3330)
noncomputable def q_b530_14 : ev_H := (bn3338 : e2_Q8)
def bn3339 : e2_Q7 := (bn2254, bn3072)
def bn3340 : e2_Q8 := (bn2248, bn3339)
noncomputable def q_b530_15 : ev_H := (bn3340 : e2_Q8)
def bn3341 : e2_Q7 := (bn2254, bn3075)
def bn3342 : e2_Q8 := (bn2248, bn3341)
noncomputable def q_b530_16 : ev_H := (bn3342 : e2_Q8)
def bn3343 : e2_Q7 := (bn2254, bn3078)
def bn3344 : e2_Q8 := (bn2248, bn3343)
noncomputable def q_b530_17 : ev_H := (bn3344 : e2_Q8)
def bn3345 : e2_Q7 := (bn2254, bn3081)
def bn3346 : e2_Q8 := (bn2248, bn3345)
noncomputable def q_b530_18 : ev_H := (bn3346 : e2_Q8)
def bn3347 : e2_Q7 := (bn2254, bn3084)
def bn3348 : e2_Q8 := (bn2248, bn3347)
noncomputable def q_b530_19 : ev_H := (bn3348 : e2_Q8)
def bn3349 : e2_Q7 := (bn2140, bn3087)
def bn3350 : e2_Q8 := (bn2248, bn3349)
noncomputable def q_b530_20 : ev_H := (bn3350 : e2_Q8)
def bn3351 : e2_Q7 := (bn2140, bn3090)
def bn3352 : e2_Q8 := (bn2248, bn3351)
noncomputable def q_b530_21 : ev_H := (bn3352 : e2_Q8)
noncomputable def rs_b530 : e2_Rs := [((9, 0, 0), q_b530_0), ((9, 0, 0), q_b530_1), ((9, 0, 0), q_b530_2), ((9, 0, 0), q_b530_3), ((9, 0, 0), q_b530_4), ((9, 0, 0), q_b530_5), ((9, 0, 0), q_b530_6), ((9, 0, 0), q_b530_7), ((9, 0, 0), q_b530_8), ((9, 0, 0), q_b530_9), ((9, 0, 0), q_b530_10), ((9, 0, 0), q_b530_11), ((9, 0, 0), q_b530_12), ((9, 0, 0), q_b530_13), ((9, 0, 0), q_b530_14), ((9, 0, 0), q_b530_15), ((9, 0, 0), q_b530_16), ((9, 0, 0), q_b530_17), ((9, 0, 0), q_b530_18), ((9, 0, 0), q_b530_19), ((9, 0, 0), q_b530_20), ((9, 0, 0), q_b530_21)]
noncomputable def s_b530 : e2_Sm := (187, as_b530, E_b530, f_b530, rs_b530)
noncomputable def S_b530 : List e2_Sm := [s_b173, s_b178, s_b179, s_b180, s_b181, s_b182, s_b183, s_b184, s_b185, s_b186, s_b187, s_b188, s_b189, s_b190, s_b191, s_b192, s_b193, s_b194, s_b195, s_b196, s_b197, s_b198, s_b199, s_b217, s_b218, s_b219, s_b220, s_b221, s_b249, s_b250, s_b251, s_b252, s_b253, s_b332, s_b333, s_b334, s_b335, s_b336, s_b338, s_b341, s_b344, s_b346, s_b348, s_b414, s_b415, s_b416, s_b417, s_b420, s_b525, s_b526, s_b527, s_b528, s_b529]
noncomputable def I_b530 : List e2_In := [(170, 2, e2x_170), (173, 3, e2x_173), (174, 1, e2x_174), (178, 2, e2x_178), (179, 3, e2x_179), (180, 1, e2x_180), (186, 1, e2x_186)]
set_option maxRecDepth 1000000 in
theorem ck_b530 : e2_run (e2_cal S_b530 I_b530 4000 2) (e2_fin rs_b530) e2x_187 (fun _ => false) (fun _ _ _ _ _ => false) 4000 (e2_seek e2x_187 0) (e2_al 3 as_b530) [] E_b530 f_b530 = true := by decide +kernel
set_option maxRecDepth 1000000 in
theorem co_b530 : e2_okSB E_b530.length as_b530 f_b530 rs_b530 = true := by decide +kernel
theorem cs_b530 (hen : en_ok) (l : Launch) (hh : e2_hand_b l) : e2_smOk l 65 s_b530 := e2_con0 (H := 62) (n := 2) (C := evd_187) (S := S_b530) (I := I_b530) (fuel := 4000) [] hen ei_187 (e2_fa ((cs_b173 hen l).mono (by decide)) (e2_fa ((cs_b178 hen l).mono (by decide)) (e2_fa ((cs_b179 hen l).mono (by decide)) (e2_fa ((cs_b180 hen l).mono (by decide)) (e2_fa ((cs_b181 hen l).mono (by decide)) (e2_fa ((cs_b182 hen l).mono (by decide)) (e2_fa ((cs_b183 hen l).mono (by decide)) (e2_fa ((cs_b184 hen l).mono (by decide)) (e2_fa ((cs_b185 hen l).mono (by decide)) (e2_fa ((cs_b186 hen l).mono (by decide)) (e2_fa ((cs_b187 hen l).mono (by decide)) (e2_fa ((cs_b188 hen l).mono (by decide)) (e2_fa ((cs_b189 hen l).mono (by decide)) (e2_fa ((cs_b190 hen l).mono (by decide)) (e2_fa ((cs_b191 hen l).mono (by decide)) (e2_fa ((cs_b192 hen l).mono (by decide)) (e2_fa ((cs_b193 hen l).mono (by decide)) (e2_fa ((cs_b194 hen l).mono (by decide)) (e2_fa ((cs_b195 hen l).mono (by decide)) (e2_fa ((cs_b196 hen l).mono (by decide)) (e2_fa ((cs_b197 hen l).mono (by decide)) (e2_fa ((cs_b198 hen l).mono (by decide)) (e2_fa ((cs_b199 hen l).mono (by decide)) (e2_fa ((cs_b217 hen l).mono (by decide)) (e2_fa ((cs_b218 hen l).mono (by decide)) (e2_fa ((cs_b219 hen l).mono (by decide)) (e2_fa ((cs_b220 hen l).mono (by decide)) (e2_fa ((cs_b221 hen l).mono (by decide)) (e2_fa ((cs_b249 hen l).mono (by decide)) (e2_fa ((cs_b250 hen l).mono (by decide)) (e2_fa ((cs_b251 hen l).mono (by decide)) (e2_fa ((cs_b252 hen l).mono (by decide)) (e2_fa ((cs_b253 hen l).mono (by decide)) (e2_fa ((cs_b332 hen l hh).mono (by decide)) (e2_fa ((cs_b333 hen l hh).mono (by decide)) (e2_fa ((cs_b334 hen l hh).mono (by decide)) (e2_fa ((cs_b335 hen l hh).mono (by decide)) (e2_fa ((cs_b336 hen l hh).mono (by decide)) (e2_fa ((cs_b338 hen l).mono (by decide)) (e2_fa ((cs_b341 hen l).mono (by decide)) (e2_fa ((cs_b344 hen l).mono (by decide)) (e2_fa ((cs_b346 hen l).mono (by decide)) (e2_fa ((cs_b348 hen l).mono (by decide)) (e2_fa ((cs_b414 hen l).mono (by decide)) (e2_fa ((cs_b415 hen l).mono (by decide)) (e2_fa ((cs_b416 hen l).mono (by decide)) (e2_fa ((cs_b417 hen l).mono (by decide)) (e2_fa ((cs_b420 hen l).mono (by decide)) (e2_fa (cs_b525 hen l hh) (e2_fa (cs_b526 hen l hh) (e2_fa (cs_b527 hen l hh) (e2_fa (cs_b528 hen l hh) (e2_fa (cs_b529 hen l hh) e2_fz))))))))))))))))))))))))))))))))))))))))))))))))))))) (e2_fa ein_170 (e2_fa ein_173 (e2_fa ein_174 (e2_fa ein_178 (e2_fa ein_179 (e2_fa ein_180 (e2_fa ein_186 e2_fz))))))) (by decide) co_b530 ex2_187 ck_b530
/-! b531 X10_readGlyph -/
def as_b531 : List ev_V := [(2, 83, 0)]
def E_b531 : e2_E := [(2147483648, 2147583648, 0, 0), (2147483648, 2147483656, 1, 0), (2147483648, 2147485249, 2, 0)]
def bn3353 : e2_Q7 := (bn581, bn2967)
def bn3354 : e2_Q8 := (bn2166, bn3353)
noncomputable def f_b531 : ev_H := (bn3354 : e2_Q8)
def bn3355 : e2_Q7 := (bn581, bn2970)
def bn3356 : e2_Q8 := (bn2280, bn3355)
noncomputable def q_b531_0 : ev_H := (bn3356 : e2_Q8)
noncomputable def rs_b531 : e2_Rs := [((9, 0, 0), q_b531_0)]
noncomputable def s_b531 : e2_Sm := (196, as_b531, E_b531, f_b531, rs_b531)
noncomputable def S_b531 : List e2_Sm := [s_b107, s_b179, s_b233, s_b254, s_b257, s_b422, s_b490]
noncomputable def I_b531 : List e2_In := [(179, 3, e2x_179)]
set_option maxRecDepth 1000000 in
theorem ck_b531 : e2_run (e2_cal S_b531 I_b531 4000 1) (e2_fin rs_b531) e2x_196 (fun _ => false) (fun _ _ _ _ _ => false) 4000 (e2_seek e2x_196 0) (e2_al 2 as_b531) [] E_b531 f_b531 = true := by decide +kernel
set_option maxRecDepth 1000000 in
theorem co_b531 : e2_okSB E_b531.length as_b531 f_b531 rs_b531 = true := by decide +kernel
theorem cs_b531 (hen : en_ok) (l : Launch) (hh : e2_hand_b l) : e2_smOk l 62 s_b531 := e2_con0 (H := 60) (n := 1) (C := evd_196) (S := S_b531) (I := I_b531) (fuel := 4000) [] hen ei_196 (e2_fa (hh _ hm_b107) (e2_fa ((cs_b179 hen l).mono (by decide)) (e2_fa ((cs_b233 hen l).mono (by decide)) (e2_fa ((cs_b254 hen l).mono (by decide)) (e2_fa ((cs_b257 hen l).mono (by decide)) (e2_fa ((cs_b422 hen l).mono (by decide)) (e2_fa ((cs_b490 hen l).mono (by decide)) e2_fz))))))) (e2_fa ein_179 e2_fz) (by decide) co_b531 ex2_196 ck_b531
/-! b532 X10_readGlyph -/
def as_b532 : List ev_V := [(2, 83, 0)]
def E_b532 : e2_E := [(2147483648, 2147583648, 0, 0), (2147483648, 2147483656, 1, 0), (2147483648, 2147485249, 2, 0)]
def bn3357 : e2_Q7 := (bn581, bn2976)
def bn3358 : e2_Q8 := (bn2166, bn3357)
noncomputable def f_b532 : ev_H := (bn3358 : e2_Q8)
def bn3359 : e2_Q7 := (bn581, bn2979)
def bn3360 : e2_Q8 := (bn2280, bn3359)
noncomputable def q_b532_0 : ev_H := (bn3360 : e2_Q8)
noncomputable def rs_b532 : e2_Rs := [((9, 0, 0), q_b532_0)]
noncomputable def s_b532 : e2_Sm := (196, as_b532, E_b532, f_b532, rs_b532)
noncomputable def S_b532 : List e2_Sm := [s_b115, s_b187, s_b245, s_b261, s_b264, s_b424, s_b492]
noncomputable def I_b532 : List e2_In := [(179, 3, e2x_179)]
set_option maxRecDepth 1000000 in
theorem ck_b532 : e2_run (e2_cal S_b532 I_b532 4000 1) (e2_fin rs_b532) e2x_196 (fun _ => false) (fun _ _ _ _ _ => false) 4000 (e2_seek e2x_196 0) (e2_al 2 as_b532) [] E_b532 f_b532 = true := by decide +kernel
set_option maxRecDepth 1000000 in
theorem co_b532 : e2_okSB E_b532.length as_b532 f_b532 rs_b532 = true := by decide +kernel
theorem cs_b532 (hen : en_ok) (l : Launch) (hh : e2_hand_b l) : e2_smOk l 62 s_b532 := e2_con0 (H := 60) (n := 1) (C := evd_196) (S := S_b532) (I := I_b532) (fuel := 4000) [] hen ei_196 (e2_fa (hh _ hm_b115) (e2_fa ((cs_b187 hen l).mono (by decide)) (e2_fa ((cs_b245 hen l).mono (by decide)) (e2_fa ((cs_b261 hen l).mono (by decide)) (e2_fa ((cs_b264 hen l).mono (by decide)) (e2_fa ((cs_b424 hen l).mono (by decide)) (e2_fa ((cs_b492 hen l).mono (by decide)) e2_fz))))))) (e2_fa ein_179 e2_fz) (by decide) co_b532 ex2_196 ck_b532
/-! b533 X10_readGlyph -/
def as_b533 : List ev_V := [(2, 83, 0)]
def E_b533 : e2_E := [(2147483648, 2147583648, 0, 0), (2147483648, 2147483656, 1, 0), (2147483648, 2147485249, 2, 0)]
def bn3361 : e2_Q7 := (bn581, bn2985)
def bn3362 : e2_Q8 := (bn2166, bn3361)
noncomputable def f_b533 : ev_H := (bn3362 : e2_Q8)
def bn3363 : e2_Q7 := (bn581, bn2988)
def bn3364 : e2_Q8 := (bn2280, bn3363)
noncomputable def q_b533_0 : ev_H := (bn3364 : e2_Q8)
noncomputable def rs_b533 : e2_Rs := [((9, 0, 0), q_b533_0)]
noncomputable def s_b533 : e2_Sm := (196, as_b533, E_b533, f_b533, rs_b533)
noncomputable def S_b533 : List e2_Sm := [s_b108, s_b185, s_b234, s_b268, s_b271, s_b426, s_b494]
noncomputable def I_b533 : List e2_In := [(179, 3, e2x_179)]
set_option maxRecDepth 1000000 in
theorem ck_b533 : e2_run (e2_cal S_b533 I_b533 4000 1) (e2_fin rs_b533) e2x_196 (fun _ => false) (fun _ _ _ _ _ => false) 4000 (e2_seek e2x_196 0) (e2_al 2 as_b533) [] E_b533 f_b533 = true := by decide +kernel
set_option maxRecDepth 1000000 in
theorem co_b533 : e2_okSB E_b533.length as_b533 f_b533 rs_b533 = true := by decide +kernel
theorem cs_b533 (hen : en_ok) (l : Launch) (hh : e2_hand_b l) : e2_smOk l 62 s_b533 := e2_con0 (H := 60) (n := 1) (C := evd_196) (S := S_b533) (I := I_b533) (fuel := 4000) [] hen ei_196 (e2_fa (hh _ hm_b108) (e2_fa ((cs_b185 hen l).mono (by decide)) (e2_fa ((cs_b234 hen l).mono (by decide)) (e2_fa ((cs_b268 hen l).mono (by decide)) (e2_fa ((cs_b271 hen l).mono (by decide)) (e2_fa ((cs_b426 hen l).mono (by decide)) (e2_fa ((cs_b494 hen l).mono (by decide)) e2_fz))))))) (e2_fa ein_179 e2_fz) (by decide) co_b533 ex2_196 ck_b533
/-! b534 X10_readGlyph -/
def as_b534 : List ev_V := [(2, 83, 0)]
def E_b534 : e2_E := [(2147483648, 2147583648, 0, 0), (2147483648, 2147483656, 1, 0), (2147483648, 2147485249, 2, 0)]
def bn3365 : e2_Q7 := (bn581, bn2994)
def bn3366 : e2_Q8 := (bn2166, bn3365)
noncomputable def f_b534 : ev_H := (bn3366 : e2_Q8)
def bn3367 : e2_Q7 := (bn581, bn2997)
def bn3368 : e2_Q8 := (bn2280, bn3367)
noncomputable def q_b534_0 : ev_H := (bn3368 : e2_Q8)
noncomputable def rs_b534 : e2_Rs := [((9, 0, 0), q_b534_0)]
noncomputable def s_b534 : e2_Sm := (196, as_b534, E_b534, f_b534, rs_b534)
noncomputable def S_b534 : List e2_Sm := [s_b106, s_b178, s_b232, s_b275, s_b278, s_b428, s_b496]
noncomputable def I_b534 : List e2_In := [(179, 3, e2x_179)]
set_option maxRecDepth 1000000 in
theorem ck_b534 : e2_run (e2_cal S_b534 I_b534 4000 1) (e2_fin rs_b534) e2x_196 (fun _ => false) (fun _ _ _ _ _ => false) 4000 (e2_seek e2x_196 0) (e2_al 2 as_b534) [] E_b534 f_b534 = true := by decide +kernel
set_option maxRecDepth 1000000 in
theorem co_b534 : e2_okSB E_b534.length as_b534 f_b534 rs_b534 = true := by decide +kernel
theorem cs_b534 (hen : en_ok) (l : Launch) (hh : e2_hand_b l) : e2_smOk l 62 s_b534 := e2_con0 (H := 60) (n := 1) (C := evd_196) (S := S_b534) (I := I_b534) (fuel := 4000) [] hen ei_196 (e2_fa (hh _ hm_b106) (e2_fa ((cs_b178 hen l).mono (by decide)) (e2_fa ((cs_b232 hen l).mono (by decide)) (e2_fa ((cs_b275 hen l).mono (by decide)) (e2_fa ((cs_b278 hen l).mono (by decide)) (e2_fa ((cs_b428 hen l).mono (by decide)) (e2_fa ((cs_b496 hen l).mono (by decide)) e2_fz))))))) (e2_fa ein_179 e2_fz) (by decide) co_b534 ex2_196 ck_b534
/-! b535 X10_readGlyph -/
def as_b535 : List ev_V := [(2, 83, 0)]
def E_b535 : e2_E := [(2147483648, 2147583648, 0, 0), (2147483648, 2147483656, 1, 0), (2147483648, 2147485249, 2, 0)]
def bn3369 : e2_Q7 := (bn2189, bn3021)
def bn3370 : e2_Q8 := (bn2166, bn3369)
noncomputable def f_b535 : ev_H := (bn3370 : e2_Q8)
def bn3371 : e2_Q7 := (bn2303, bn3024)
def bn3372 : e2_Q8 := (bn2280, bn3371)
noncomputable def q_b535_0 : ev_H := (bn3372 : e2_Q8)
def bn3373 : e2_Q7 := (bn2189, bn3027)
def bn3374 : e2_Q8 := (bn2280, bn3373)
noncomputable def q_b535_1 : ev_H := (bn3374 : e2_Q8)
def bn3375 : e2_Q7 := (bn2303, bn3030)
def bn3376 : e2_Q8 := (bn2280, bn3375)
noncomputable def q_b535_2 : ev_H := (bn3376 : e2_Q8)
def bn3377 : e2_Q7 := (bn2303, bn3033)
def bn3378 : e2_Q8 := (bn2280, bn3377)
noncomputable def q_b535_3 : ev_H := (bn3378 : e2_Q8)
def bn3379 : e2_Q7 := (bn2303, bn3036)
def bn3380 : e2_Q8 := (bn2280, bn3379)
noncomputable def q_b535_4 : ev_H := (bn3380 : e2_Q8)
def bn3381 : e2_Q7 := (bn2303, bn3039)
def bn3382 : e2_Q8 := (bn2280, bn3381)
noncomputable def q_b535_5 : ev_H := (bn3382 : e2_Q8)
def bn3383 : e2_Q7 := (bn2303, bn3042)
def bn3384 : e2_Q8 := (bn2280, bn3383)
noncomputable def q_b535_6 : ev_H := (bn3384 : e2_Q8)
def bn3385 : e2_Q7 := (bn2303, bn3045)
def bn3386 : e2_Q8 := (bn2280, bn3385)
noncomputable def q_b535_7 : ev_H := (bn3386 : e2_Q8)
def bn3387 : e2_Q7 := (bn2303, bn2970)
def bn3388 : e2_Q8 := (bn2280, bn3387)
noncomputable def q_b535_8 : ev_H := (bn3388 : e2_Q8)
def bn3389 : e2_Q7 := (bn2303, bn2997)
def bn3390 : e2_Q8 := (bn2280, bn3389)
noncomputable def q_b535_9 : ev_H := (bn3390 : e2_Q8)
def bn3391 : e2_Q7 := (bn2189, bn3052)
def bn3392 : e2_Q8 := (bn2280, bn3391)
noncomputable def q_b535_10 : ev_H := (bn3392 : e2_Q8)
noncomputable def rs_b535 : e2_Rs := [((9, 0, 0), q_b535_0), ((9, 0, 0), q_b535_1), ((9, 0, 0), q_b535_2), ((9, 0, 0), q_b535_3), ((9, 0, 0), q_b535_4), ((9, 0, 0), q_b535_5), ((9, 0, 0), q_b535_6), ((9, 0, 0), q_b535_7), ((9, 0, 0), q_b535_8), ((9, 0, 0), q_b535_9), ((9, 0, 0), q_b535_10)]
noncomputable def s_b535 : e2_Sm := (196, as_b535, E_b535, f_b535, rs_b535)
noncomputable def S_b535 : List e2_Sm := [s_b109, s_b110, s_b111, s_b112, s_b113, s_b114, s_b181, s_b183, s_b184, s_b186, s_b188, s_b190, s_b191, s_b192, s_b232, s_b233, s_b235, s_b236, s_b237, s_b238, s_b239, s_b240, s_b241, s_b242, s_b243, s_b244, s_b257, s_b278, s_b282, s_b285, s_b286, s_b287, s_b288, s_b289, s_b290, s_b291, s_b292, s_b293, s_b294, s_b295, s_b337, s_b345, s_b347, s_b430, s_b490, s_b496, s_b498, s_b499, s_b500, s_b501, s_b502, s_b503, s_b504]
noncomputable def I_b535 : List e2_In := [(179, 3, e2x_179)]
set_option maxRecDepth 1000000 in
theorem ck_b535 : e2_run (e2_cal S_b535 I_b535 4000 1) (e2_fin rs_b535) e2x_196 (fun _ => false) (fun _ _ _ _ _ => false) 4000 (e2_seek e2x_196 0) (e2_al 2 as_b535) [] E_b535 f_b535 = true := by decide +kernel
set_option maxRecDepth 1000000 in
theorem co_b535 : e2_okSB E_b535.length as_b535 f_b535 rs_b535 = true := by decide +kernel
theorem cs_b535 (hen : en_ok) (l : Launch) (hh : e2_hand_b l) : e2_smOk l 62 s_b535 := e2_con0 (H := 60) (n := 1) (C := evd_196) (S := S_b535) (I := I_b535) (fuel := 4000) [] hen ei_196 (e2_fa (hh _ hm_b109) (e2_fa (hh _ hm_b110) (e2_fa (hh _ hm_b111) (e2_fa (hh _ hm_b112) (e2_fa (hh _ hm_b113) (e2_fa (hh _ hm_b114) (e2_fa ((cs_b181 hen l).mono (by decide)) (e2_fa ((cs_b183 hen l).mono (by decide)) (e2_fa ((cs_b184 hen l).mono (by decide)) (e2_fa ((cs_b186 hen l).mono (by decide)) (e2_fa ((cs_b188 hen l).mono (by decide)) (e2_fa ((cs_b190 hen l).mono (by decide)) (e2_fa ((cs_b191 hen l).mono (by decide)) (e2_fa ((cs_b192 hen l).mono (by decide)) (e2_fa ((cs_b232 hen l).mono (by decide)) (e2_fa ((cs_b233 hen l).mono (by decide)) (e2_fa ((cs_b235 hen l).mono (by decide)) (e2_fa ((cs_b236 hen l).mono (by decide)) (e2_fa ((cs_b237 hen l).mono (by decide)) (e2_fa ((cs_b238 hen l).mono (by decide)) (e2_fa ((cs_b239 hen l).mono (by decide)) (e2_fa ((cs_b240 hen l).mono (by decide)) (e2_fa ((cs_b241 hen l).mono (by decide)) (e2_fa ((cs_b242 hen l).mono (by decide)) (e2_fa ((cs_b243 hen l).mono (by decide)) (e2_fa ((cs_b244 hen l).mono (by decide)) (e2_fa ((cs_b257 hen l).mono (by decide)) (e2_fa ((cs_b278 hen l).mono (by decide)) (e2_fa ((cs_b282 hen l).mono (by decide)) (e2_fa ((cs_b285 hen l).mono (by decide)) (e2_fa ((cs_b286 hen l).mono (by decide)) (e2_fa ((cs_b287 hen l).mono (by decide)) (e2_fa ((cs_b288 hen l).mono (by decide)) (e2_fa ((cs_b289 hen l).mono (by decide)) (e2_fa ((cs_b290 hen l).mono (by decide)) (e2_fa ((cs_b291 hen l).mono (by decide)) (e2_fa ((cs_b292 hen l).mono (by decide)) (e2_fa ((cs_b293 hen l).mono (by decide)) (e2_fa ((cs_b294 hen l).mono (by decide)) (e2_fa ((cs_b295 hen l).mono (by decide)) (e2_fa ((cs_b337 hen l).mono (by decide)) (e2_fa ((cs_b345 hen l).mono (by decide)) (e2_fa ((cs_b347 hen l).mono (by decide)) (e2_fa ((cs_b430 hen l).mono (by decide)) (e2_fa ((cs_b490 hen l).mono (by decide)) (e2_fa ((cs_b496 hen l).mono (by decide)) (e2_fa ((cs_b498 hen l).mono (by decide)) (e2_fa ((cs_b499 hen l).mono (by decide)) (e2_fa ((cs_b500 hen l).mono (by decide)) (e2_fa ((cs_b501 hen l).mono (by decide)) (e2_fa ((cs_b502 hen l).mono (by decide)) (e2_fa ((cs_b503 hen l).mono (by decide)) (e2_fa ((cs_b504 hen l).mono (by decide)) e2_fz))))))))))))))))))))))))))))))))))))))))))))))))))))) (e2_fa ein_179 e2_fz) (by decide) co_b535 ex2_196 ck_b535
/-! b536 X10_readLine -/
def as_b536 : List ev_V := [(2, 83, 0)]
def E_b536 : e2_E := [(2147483648, 2147583648, 0, 0), (2147483648, 2147483656, 1, 0), (2147483648, 2147485249, 2, 0)]
def bn3393 : e2_Q7 := (bn2254, bn3056)
def bn3394 : e2_Q8 := (bn2248, bn3393)
noncomputable def f_b536 : ev_H := (bn3394 : e2_Q8)
noncomputable def q_b536_0 : ev_H := (bn2348 : e2_Q8)
noncomputable def q_b536_1 : ev_H := (bn2350 : e2_Q8)
noncomputable def q_b536_2 : ev_H := (bn2352 : e2_Q8)
noncomputable def q_b536_3 : ev_H := (bn2354 : e2_Q8)
noncomputable def q_b536_4 : ev_H := (bn2256 : e2_Q8)
noncomputable def q_b536_5 : ev_H := (bn2258 : e2_Q8)
noncomputable def q_b536_6 : ev_H := (bn2260 : e2_Q8)
noncomputable def q_b536_7 : ev_H := (bn2262 : e2_Q8)
noncomputable def q_b536_8 : ev_H := (bn2264 : e2_Q8)
noncomputable def q_b536_9 : ev_H := (bn2356 : e2_Q8)
def bn3395 : e2_Q7 := (bn2254, bn3059)
def bn3396 : e2_Q8 := (bn2248, bn3395)
noncomputable def q_b536_10 : ev_H := (bn3396 : e2_Q8)
def bn3397 : e2_Q7 := (bn2254, bn3062)
def bn3398 : e2_Q8 := (bn2362, bn3397)
noncomputable def q_b536_11 : ev_H := (bn3398 : e2_Q8)
def bn3399 : e2_Q7 := (bn2254, bn3065)
def bn3400 : e2_Q8 := (bn2362, bn3399)
noncomputable def q_b536_12 : ev_H := (bn3400 : e2_Q8)
def bn3401 : e2_Q7 := (bn2254, bn3068)
def bn3402 : e2_Q8 := (bn2362, bn3401)
noncomputable def q_b536_13 : ev_H := (bn3402 : e2_Q8)
def bn3403 : e2_Q8 := (bn2362, bn3395)
noncomputable def q_b536_14 : ev_H := (bn3403 : e2_Q8)
def bn3404 : e2_Q7 := (bn2368, bn3072)
def bn3405 : e2_Q8 := (bn2362, bn3404)
noncomputable def q_b536_15 : ev_H := (bn3405 : e2_Q8)
def bn3406 : e2_Q7 := (bn2368, bn3075)
def bn3407 : e2_Q8 := (bn2362, bn3406)
noncomputable def q_b536_16 : ev_H := (bn3407 : e2_Q8)
def bn3408 : e2_Q7 := (bn2368, bn3078)
def bn3409 : e2_Q8 := (bn2362, bn3408)
noncomputable def q_b536_17 : ev_H := (bn3409 : e2_Q8)
def bn3410 : e2_Q7 := (bn2368, bn3081)
def bn3411 : e2_Q8 := (bn2362, bn3410)
noncomputable def q_b536_18 : ev_H := (bn3411 : e2_Q8)
def bn3412 : e2_Q7 := (bn2368, bn3084)
def bn3413 : e2_Q8 := (bn2362, bn3412)
noncomputable def q_b536_19 : ev_H := (bn3413 : e2_Q8)
def bn3414 : e2_Q7 := (bn2254, bn3087)
def bn3415 : e2_Q8 := (bn2362, bn3414)
noncomputable def q_b536_20 : ev_H := (bn3415 : e2_Q8)
def bn3416 : e2_Q7 := (bn2254, bn3090)
def bn3417 : e2_Q8 := (bn2362, bn3416)
noncomputable def q_b536_21 : ev_H := (bn3417 : e2_Q8)
noncomputable def rs_b536 : e2_Rs := [((9, 0, 0), q_b536_0), ((9, 0, 0), q_b536_1), ((9, 0, 0), q_b536_2), ((9, 0, 0), q_b536_3), ((9, 0, 0), q_b536_4), ((9, 0, 0), q_b536_5), ((9, 0, 0), q_b536_6), ((9, 0, 0), q_b536_7), ((9, 0, 0), q_b536_8), ((9, 0, 0), q_b536_9), ((9, 0, 0), q_b536_10), ((9, 0, 0), q_b536_11), ((9, 0, 0), q_b536_12), ((9, 0, 0), q_b536_13), ((9, 0, 0), q_b536_14), ((9, 0, 0), q_b536_15), ((9, 0, 0), q_b536_16), ((9, 0, 0), q_b536_17), ((9, 0, 0), q_b536_18), ((9, 0, 0), q_b536_19), ((9, 0, 0), q_b536_20), ((9, 0, 0), q_b536_21)]
noncomputable def s_b536 : e2_Sm := (187, as_b536, E_b536, f_b536, rs_b536)
noncomputable def S_b536 : List e2_Sm := [s_b173, s_b178, s_b179, s_b180, s_b181, s_b182, s_b183, s_b184, s_b185, s_b186, s_b187, s_b188, s_b189, s_b190, s_b191, s_b192, s_b193, s_b194, s_b195, s_b196, s_b197, s_b198, s_b199, s_b217, s_b218, s_b219, s_b220, s_b221, s_b249, s_b250, s_b251, s_b252, s_b253, s_b332, s_b333, s_b334, s_b335, s_b336, s_b338, s_b341, s_b344, s_b346, s_b348, s_b432, s_b433, s_b434, s_b435, s_b438, s_b531, s_b532, s_b533, s_b534, s_b535]
noncomputable def I_b536 : List e2_In := [(170, 2, e2x_170), (173, 3, e2x_173), (174, 1, e2x_174), (178, 2, e2x_178), (179, 3, e2x_179), (180, 1, e2x_180), (186, 1, e2x_186)]
set_option maxRecDepth 1000000 in
theorem ck_b536 : e2_run (e2_cal S_b536 I_b536 4000 2) (e2_fin rs_b536) e2x_187 (fun _ => false) (fun _ _ _ _ _ => false) 4000 (e2_seek e2x_187 0) (e2_al 3 as_b536) [] E_b536 f_b536 = true := by decide +kernel
set_option maxRecDepth 1000000 in
theorem co_b536 : e2_okSB E_b536.length as_b536 f_b536 rs_b536 = true := by decide +kernel
theorem cs_b536 (hen : en_ok) (l : Launch) (hh : e2_hand_b l) : e2_smOk l 65 s_b536 := e2_con0 (H := 62) (n := 2) (C := evd_187) (S := S_b536) (I := I_b536) (fuel := 4000) [] hen ei_187 (e2_fa ((cs_b173 hen l).mono (by decide)) (e2_fa ((cs_b178 hen l).mono (by decide)) (e2_fa ((cs_b179 hen l).mono (by decide)) (e2_fa ((cs_b180 hen l).mono (by decide)) (e2_fa ((cs_b181 hen l).mono (by decide)) (e2_fa ((cs_b182 hen l).mono (by decide)) (e2_fa ((cs_b183 hen l).mono (by decide)) (e2_fa ((cs_b184 hen l).mono (by decide)) (e2_fa ((cs_b185 hen l).mono (by decide)) (e2_fa ((cs_b186 hen l).mono (by decide)) (e2_fa ((cs_b187 hen l).mono (by decide)) (e2_fa ((cs_b188 hen l).mono (by decide)) (e2_fa ((cs_b189 hen l).mono (by decide)) (e2_fa ((cs_b190 hen l).mono (by decide)) (e2_fa ((cs_b191 hen l).mono (by decide)) (e2_fa ((cs_b192 hen l).mono (by decide)) (e2_fa ((cs_b193 hen l).mono (by decide)) (e2_fa ((cs_b194 hen l).mono (by decide)) (e2_fa ((cs_b195 hen l).mono (by decide)) (e2_fa ((cs_b196 hen l).mono (by decide)) (e2_fa ((cs_b197 hen l).mono (by decide)) (e2_fa ((cs_b198 hen l).mono (by decide)) (e2_fa ((cs_b199 hen l).mono (by decide)) (e2_fa ((cs_b217 hen l).mono (by decide)) (e2_fa ((cs_b218 hen l).mono (by decide)) (e2_fa ((cs_b219 hen l).mono (by decide)) (e2_fa ((cs_b220 hen l).mono (by decide)) (e2_fa ((cs_b221 hen l).mono (by decide)) (e2_fa ((cs_b249 hen l).mono (by decide)) (e2_fa ((cs_b250 hen l).mono (by decide)) (e2_fa ((cs_b251 hen l).mono (by decide)) (e2_fa ((cs_b252 hen l).mono (by decide)) (e2_fa ((cs_b253 hen l).mono (by decide)) (e2_fa ((cs_b332 hen l hh).mono (by decide)) (e2_fa ((cs_b333 hen l hh).mono (by decide)) (e2_fa ((cs_b334 hen l hh).mono (by decide)) (e2_fa ((cs_b335 hen l hh).mono (by decide)) (e2_fa ((cs_b336 hen l hh).mono (by decide)) (e2_fa ((cs_b338 hen l).mono (by decide)) (e2_fa ((cs_b341 hen l).mono (by decide)) (e2_fa ((cs_b344 hen l).mono (by decide)) (e2_fa ((cs_b346 hen l).mono (by decide)) (e2_fa ((cs_b348 hen l).mono (by decide)) (e2_fa ((cs_b432 hen l).mono (by decide)) (e2_fa ((cs_b433 hen l).mono (by decide)) (e2_fa ((cs_b434 hen l).mono (by decide)) (e2_fa ((cs_b435 hen l).mono (by decide)) (e2_fa ((cs_b438 hen l).mono (by decide)) (e2_fa (cs_b531 hen l hh) (e2_fa (cs_b532 hen l hh) (e2_fa (cs_b533 hen l hh) (e2_fa (cs_b534 hen l hh) (e2_fa (cs_b535 hen l hh) e2_fz))))))))))))))))))))))))))))))))))))))))))))))))))))) (e2_fa ein_170 (e2_fa ein_173 (e2_fa ein_174 (e2_fa ein_178 (e2_fa ein_179 (e2_fa ein_180 (e2_fa ein_186 e2_fz))))))) (by decide) co_b536 ex2_187 ck_b536
/-! b537 X10_readGlyph -/
def as_b537 : List ev_V := [(2, 83, 0)]
def E_b537 : e2_E := [(2147483648, 2147583648, 0, 0), (2147483648, 2147483656, 1, 0), (2147483648, 2147485249, 2, 0)]
def bn3418 : e2_Q7 := (bn613, bn2967)
def bn3419 : e2_Q8 := (bn2280, bn3418)
noncomputable def f_b537 : ev_H := (bn3419 : e2_Q8)
def bn3420 : e2_Q7 := (bn613, bn2970)
def bn3421 : e2_Q8 := (bn2394, bn3420)
noncomputable def q_b537_0 : ev_H := (bn3421 : e2_Q8)
noncomputable def rs_b537 : e2_Rs := [((9, 0, 0), q_b537_0)]
noncomputable def s_b537 : e2_Sm := (196, as_b537, E_b537, f_b537, rs_b537)
noncomputable def S_b537 : List e2_Sm := [s_b127, s_b179, s_b233, s_b254, s_b257, s_b440, s_b490]
noncomputable def I_b537 : List e2_In := [(179, 3, e2x_179)]
set_option maxRecDepth 1000000 in
theorem ck_b537 : e2_run (e2_cal S_b537 I_b537 4000 1) (e2_fin rs_b537) e2x_196 (fun _ => false) (fun _ _ _ _ _ => false) 4000 (e2_seek e2x_196 0) (e2_al 2 as_b537) [] E_b537 f_b537 = true := by decide +kernel
set_option maxRecDepth 1000000 in
theorem co_b537 : e2_okSB E_b537.length as_b537 f_b537 rs_b537 = true := by decide +kernel
theorem cs_b537 (hen : en_ok) (l : Launch) (hh : e2_hand_b l) : e2_smOk l 62 s_b537 := e2_con0 (H := 60) (n := 1) (C := evd_196) (S := S_b537) (I := I_b537) (fuel := 4000) [] hen ei_196 (e2_fa (hh _ hm_b127) (e2_fa ((cs_b179 hen l).mono (by decide)) (e2_fa ((cs_b233 hen l).mono (by decide)) (e2_fa ((cs_b254 hen l).mono (by decide)) (e2_fa ((cs_b257 hen l).mono (by decide)) (e2_fa ((cs_b440 hen l).mono (by decide)) (e2_fa ((cs_b490 hen l).mono (by decide)) e2_fz))))))) (e2_fa ein_179 e2_fz) (by decide) co_b537 ex2_196 ck_b537
/-! b538 X10_readGlyph -/
def as_b538 : List ev_V := [(2, 83, 0)]
def E_b538 : e2_E := [(2147483648, 2147583648, 0, 0), (2147483648, 2147483656, 1, 0), (2147483648, 2147485249, 2, 0)]
def bn3422 : e2_Q7 := (bn613, bn2976)
def bn3423 : e2_Q8 := (bn2280, bn3422)
noncomputable def f_b538 : ev_H := (bn3423 : e2_Q8)
def bn3424 : e2_Q7 := (bn613, bn2979)
def bn3425 : e2_Q8 := (bn2394, bn3424)
noncomputable def q_b538_0 : ev_H := (bn3425 : e2_Q8)
noncomputable def rs_b538 : e2_Rs := [((9, 0, 0), q_b538_0)]
noncomputable def s_b538 : e2_Sm := (196, as_b538, E_b538, f_b538, rs_b538)
noncomputable def S_b538 : List e2_Sm := [s_b135, s_b187, s_b245, s_b261, s_b264, s_b442, s_b492]
noncomputable def I_b538 : List e2_In := [(179, 3, e2x_179)]
set_option maxRecDepth 1000000 in
theorem ck_b538 : e2_run (e2_cal S_b538 I_b538 4000 1) (e2_fin rs_b538) e2x_196 (fun _ => false) (fun _ _ _ _ _ => false) 4000 (e2_seek e2x_196 0) (e2_al 2 as_b538) [] E_b538 f_b538 = true := by decide +kernel
set_option maxRecDepth 1000000 in
theorem co_b538 : e2_okSB E_b538.length as_b538 f_b538 rs_b538 = true := by decide +kernel
theorem cs_b538 (hen : en_ok) (l : Launch) (hh : e2_hand_b l) : e2_smOk l 62 s_b538 := e2_con0 (H := 60) (n := 1) (C := evd_196) (S := S_b538) (I := I_b538) (fuel := 4000) [] hen ei_196 (e2_fa (hh _ hm_b135) (e2_fa ((cs_b187 hen l).mono (by decide)) (e2_fa ((cs_b245 hen l).mono (by decide)) (e2_fa ((cs_b261 hen l).mono (by decide)) (e2_fa ((cs_b264 hen l).mono (by decide)) (e2_fa ((cs_b442 hen l).mono (by decide)) (e2_fa ((cs_b492 hen l).mono (by decide)) e2_fz))))))) (e2_fa ein_179 e2_fz) (by decide) co_b538 ex2_196 ck_b538
/-! b539 X10_readGlyph -/
def as_b539 : List ev_V := [(2, 83, 0)]
def E_b539 : e2_E := [(2147483648, 2147583648, 0, 0), (2147483648, 2147483656, 1, 0), (2147483648, 2147485249, 2, 0)]
def bn3426 : e2_Q7 := (bn613, bn2985)
def bn3427 : e2_Q8 := (bn2280, bn3426)
noncomputable def f_b539 : ev_H := (bn3427 : e2_Q8)
def bn3428 : e2_Q7 := (bn613, bn2988)
def bn3429 : e2_Q8 := (bn2394, bn3428)
noncomputable def q_b539_0 : ev_H := (bn3429 : e2_Q8)
noncomputable def rs_b539 : e2_Rs := [((9, 0, 0), q_b539_0)]
noncomputable def s_b539 : e2_Sm := (196, as_b539, E_b539, f_b539, rs_b539)
noncomputable def S_b539 : List e2_Sm := [s_b128, s_b185, s_b234, s_b268, s_b271, s_b444, s_b494]
noncomputable def I_b539 : List e2_In := [(179, 3, e2x_179)]
set_option maxRecDepth 1000000 in
theorem ck_b539 : e2_run (e2_cal S_b539 I_b539 4000 1) (e2_fin rs_b539) e2x_196 (fun _ => false) (fun _ _ _ _ _ => false) 4000 (e2_seek e2x_196 0) (e2_al 2 as_b539) [] E_b539 f_b539 = true := by decide +kernel
set_option maxRecDepth 1000000 in
theorem co_b539 : e2_okSB E_b539.length as_b539 f_b539 rs_b539 = true := by decide +kernel
theorem cs_b539 (hen : en_ok) (l : Launch) (hh : e2_hand_b l) : e2_smOk l 62 s_b539 := e2_con0 (H := 60) (n := 1) (C := evd_196) (S := S_b539) (I := I_b539) (fuel := 4000) [] hen ei_196 (e2_fa (hh _ hm_b128) (e2_fa ((cs_b185 hen l).mono (by decide)) (e2_fa ((cs_b234 hen l).mono (by decide)) (e2_fa ((cs_b268 hen l).mono (by decide)) (e2_fa ((cs_b271 hen l).mono (by decide)) (e2_fa ((cs_b444 hen l).mono (by decide)) (e2_fa ((cs_b494 hen l).mono (by decide)) e2_fz))))))) (e2_fa ein_179 e2_fz) (by decide) co_b539 ex2_196 ck_b539
/-! b540 X10_readGlyph -/
def as_b540 : List ev_V := [(2, 83, 0)]
def E_b540 : e2_E := [(2147483648, 2147583648, 0, 0), (2147483648, 2147483656, 1, 0), (2147483648, 2147485249, 2, 0)]
def bn3430 : e2_Q7 := (bn613, bn2994)
def bn3431 : e2_Q8 := (bn2280, bn3430)
noncomputable def f_b540 : ev_H := (bn3431 : e2_Q8)
def bn3432 : e2_Q7 := (bn613, bn2997)
def bn3433 : e2_Q8 := (bn2394, bn3432)
noncomputable def q_b540_0 : ev_H := (bn3433 : e2_Q8)
noncomputable def rs_b540 : e2_Rs := [((9, 0, 0), q_b540_0)]
noncomputable def s_b540 : e2_Sm := (196, as_b540, E_b540, f_b540, rs_b540)
noncomputable def S_b540 : List e2_Sm := [s_b126, s_b178, s_b232, s_b275, s_b278, s_b446, s_b496]
noncomputable def I_b540 : List e2_In := [(179, 3, e2x_179)]
set_option maxRecDepth 1000000 in
theorem ck_b540 : e2_run (e2_cal S_b540 I_b540 4000 1) (e2_fin rs_b540) e2x_196 (fun _ => false) (fun _ _ _ _ _ => false) 4000 (e2_seek e2x_196 0) (e2_al 2 as_b540) [] E_b540 f_b540 = true := by decide +kernel
set_option maxRecDepth 1000000 in
theorem co_b540 : e2_okSB E_b540.length as_b540 f_b540 rs_b540 = true := by decide +kernel
theorem cs_b540 (hen : en_ok) (l : Launch) (hh : e2_hand_b l) : e2_smOk l 62 s_b540 := e2_con0 (H := 60) (n := 1) (C := evd_196) (S := S_b540) (I := I_b540) (fuel := 4000) [] hen ei_196 (e2_fa (hh _ hm_b126) (e2_fa ((cs_b178 hen l).mono (by decide)) (e2_fa ((cs_b232 hen l).mono (by decide)) (e2_fa ((cs_b275 hen l).mono (by decide)) (e2_fa ((cs_b278 hen l).mono (by decide)) (e2_fa ((cs_b446 hen l).mono (by decide)) (e2_fa ((cs_b496 hen l).mono (by decide)) e2_fz))))))) (e2_fa ein_179 e2_fz) (by decide) co_b540 ex2_196 ck_b540
/-! b541 X10_readGlyph -/
def as_b541 : List ev_V := [(2, 83, 0)]
def E_b541 : e2_E := [(2147483648, 2147583648, 0, 0), (2147483648, 2147483656, 1, 0), (2147483648, 2147485249, 2, 0)]
def bn3434 : e2_Q7 := (bn2303, bn3021)
def bn3435 : e2_Q8 := (bn2280, bn3434)
noncomputable def f_b541 : ev_H := (bn3435 : e2_Q8)
def bn3436 : e2_Q7 := (bn2417, bn3024)
def bn3437 : e2_Q8 := (bn2394, bn3436)
noncomputable def q_b541_0 : ev_H := (bn3437 : e2_Q8)
def bn3438 : e2_Q7 := (bn2303, bn3027)
def bn3439 : e2_Q8 := (bn2394, bn3438)
noncomputable def q_b541_1 : ev_H := (bn3439 : e2_Q8)
def bn3440 : e2_Q7 := (bn2417, bn3030)
def bn3441 : e2_Q8 := (bn2394, bn3440)
noncomputable def q_b541_2 : ev_H := (bn3441 : e2_Q8)
def bn3442 : e2_Q7 := (bn2417, bn3033)
def bn3443 : e2_Q8 := (bn2394, bn3442)
noncomputable def q_b541_3 : ev_H := (bn3443 : e2_Q8)
def bn3444 : e2_Q7 := (bn2417, bn3036)
def bn3445 : e2_Q8 := (bn2394, bn3444)
noncomputable def q_b541_4 : ev_H := (bn3445 : e2_Q8)
def bn3446 : e2_Q7 := (bn2417, bn3039)
def bn3447 : e2_Q8 := (bn2394, bn3446)
noncomputable def q_b541_5 : ev_H := (bn3447 : e2_Q8)
def bn3448 : e2_Q7 := (bn2417, bn3042)
def bn3449 : e2_Q8 := (bn2394, bn3448)
noncomputable def q_b541_6 : ev_H := (bn3449 : e2_Q8)
def bn3450 : e2_Q7 := (bn2417, bn3045)
def bn3451 : e2_Q8 := (bn2394, bn3450)
noncomputable def q_b541_7 : ev_H := (bn3451 : e2_Q8)
def bn3452 : e2_Q7 := (bn2417, bn2970)
def bn3453 : e2_Q8 := (bn2394, bn3452)
noncomputable def q_b541_8 : ev_H := (bn3453 : e2_Q8)
def bn3454 : e2_Q7 := (bn2417, bn2997)
def bn3455 : e2_Q8 := (bn2394, bn3454)
noncomputable def q_b541_9 : ev_H := (bn3455 : e2_Q8)
def bn3456 : e2_Q7 := (bn2303, bn3052)
def bn3457 : e2_Q8 := (bn2394, bn3456)
noncomputable def q_b541_10 : ev_H := (bn3457 : e2_Q8)
noncomputable def rs_b541 : e2_Rs := [((9, 0, 0), q_b541_0), ((9, 0, 0), q_b541_1), ((9, 0, 0), q_b541_2), ((9, 0, 0), q_b541_3), ((9, 0, 0), q_b541_4), ((9, 0, 0), q_b541_5), ((9, 0, 0), q_b541_6), ((9, 0, 0), q_b541_7), ((9, 0, 0), q_b541_8), ((9, 0, 0), q_b541_9), ((9, 0, 0), q_b541_10)]
noncomputable def s_b541 : e2_Sm := (196, as_b541, E_b541, f_b541, rs_b541)
noncomputable def S_b541 : List e2_Sm := [s_b129, s_b130, s_b131, s_b132, s_b133, s_b134, s_b181, s_b183, s_b184, s_b186, s_b188, s_b190, s_b191, s_b192, s_b232, s_b233, s_b235, s_b236, s_b237, s_b238, s_b239, s_b240, s_b241, s_b242, s_b243, s_b244, s_b257, s_b278, s_b282, s_b285, s_b286, s_b287, s_b288, s_b289, s_b290, s_b291, s_b292, s_b293, s_b294, s_b295, s_b337, s_b345, s_b347, s_b448, s_b490, s_b496, s_b498, s_b499, s_b500, s_b501, s_b502, s_b503, s_b504]
noncomputable def I_b541 : List e2_In := [(179, 3, e2x_179)]
set_option maxRecDepth 1000000 in
theorem ck_b541 : e2_run (e2_cal S_b541 I_b541 4000 1) (e2_fin rs_b541) e2x_196 (fun _ => false) (fun _ _ _ _ _ => false) 4000 (e2_seek e2x_196 0) (e2_al 2 as_b541) [] E_b541 f_b541 = true := by decide +kernel
set_option maxRecDepth 1000000 in
theorem co_b541 : e2_okSB E_b541.length as_b541 f_b541 rs_b541 = true := by decide +kernel
theorem cs_b541 (hen : en_ok) (l : Launch) (hh : e2_hand_b l) : e2_smOk l 62 s_b541 := e2_con0 (H := 60) (n := 1) (C := evd_196) (S := S_b541) (I := I_b541) (fuel := 4000) [] hen ei_196 (e2_fa (hh _ hm_b129) (e2_fa (hh _ hm_b130) (e2_fa (hh _ hm_b131) (e2_fa (hh _ hm_b132) (e2_fa (hh _ hm_b133) (e2_fa (hh _ hm_b134) (e2_fa ((cs_b181 hen l).mono (by decide)) (e2_fa ((cs_b183 hen l).mono (by decide)) (e2_fa ((cs_b184 hen l).mono (by decide)) (e2_fa ((cs_b186 hen l).mono (by decide)) (e2_fa ((cs_b188 hen l).mono (by decide)) (e2_fa ((cs_b190 hen l).mono (by decide)) (e2_fa ((cs_b191 hen l).mono (by decide)) (e2_fa ((cs_b192 hen l).mono (by decide)) (e2_fa ((cs_b232 hen l).mono (by decide)) (e2_fa ((cs_b233 hen l).mono (by decide)) (e2_fa ((cs_b235 hen l).mono (by decide)) (e2_fa ((cs_b236 hen l).mono (by decide)) (e2_fa ((cs_b237 hen l).mono (by decide)) (e2_fa ((cs_b238 hen l).mono (by decide)) (e2_fa ((cs_b239 hen l).mono (by decide)) (e2_fa ((cs_b240 hen l).mono (by decide)) (e2_fa ((cs_b241 hen l).mono (by decide)) (e2_fa ((cs_b242 hen l).mono (by decide)) (e2_fa ((cs_b243 hen l).mono (by decide)) (e2_fa ((cs_b244 hen l).mono (by decide)) (e2_fa ((cs_b257 hen l).mono (by decide)) (e2_fa ((cs_b278 hen l).mono (by decide)) (e2_fa ((cs_b282 hen l).mono (by decide)) (e2_fa ((cs_b285 hen l).mono (by decide)) (e2_fa ((cs_b286 hen l).mono (by decide)) (e2_fa ((cs_b287 hen l).mono (by decide)) (e2_fa ((cs_b288 hen l).mono (by decide)) (e2_fa ((cs_b289 hen l).mono (by decide)) (e2_fa ((cs_b290 hen l).mono (by decide)) (e2_fa ((cs_b291 hen l).mono (by decide)) (e2_fa ((cs_b292 hen l).mono (by decide)) (e2_fa ((cs_b293 hen l).mono (by decide)) (e2_fa ((cs_b294 hen l).mono (by decide)) (e2_fa ((cs_b295 hen l).mono (by decide)) (e2_fa ((cs_b337 hen l).mono (by decide)) (e2_fa ((cs_b345 hen l).mono (by decide)) (e2_fa ((cs_b347 hen l).mono (by decide)) (e2_fa ((cs_b448 hen l).mono (by decide)) (e2_fa ((cs_b490 hen l).mono (by decide)) (e2_fa ((cs_b496 hen l).mono (by decide)) (e2_fa ((cs_b498 hen l).mono (by decide)) (e2_fa ((cs_b499 hen l).mono (by decide)) (e2_fa ((cs_b500 hen l).mono (by decide)) (e2_fa ((cs_b501 hen l).mono (by decide)) (e2_fa ((cs_b502 hen l).mono (by decide)) (e2_fa ((cs_b503 hen l).mono (by decide)) (e2_fa ((cs_b504 hen l).mono (by decide)) e2_fz))))))))))))))))))))))))))))))))))))))))))))))))))))) (e2_fa ein_179 e2_fz) (by decide) co_b541 ex2_196 ck_b541
/-! b542 X10_readLine -/
def as_b542 : List ev_V := [(2, 83, 0)]
def E_b542 : e2_E := [(2147483648, 2147583648, 0, 0), (2147483648, 2147483656, 1, 0), (2147483648, 2147485249, 2, 0)]
def bn3458 : e2_Q7 := (bn2368, bn3056)
def bn3459 : e2_Q8 := (bn2362, bn3458)
noncomputable def f_b542 : ev_H := (bn3459 : e2_Q8)
noncomputable def q_b542_0 : ev_H := (bn2462 : e2_Q8)
noncomputable def q_b542_1 : ev_H := (bn2464 : e2_Q8)
noncomputable def q_b542_2 : ev_H := (bn2466 : e2_Q8)
noncomputable def q_b542_3 : ev_H := (bn2468 : e2_Q8)
noncomputable def q_b542_4 : ev_H := (bn2370 : e2_Q8)
noncomputable def q_b542_5 : ev_H := (bn2372 : e2_Q8)
noncomputable def q_b542_6 : ev_H := (bn2374 : e2_Q8)
noncomputable def q_b542_7 : ev_H := (bn2376 : e2_Q8)
noncomputable def q_b542_8 : ev_H := (bn2378 : e2_Q8)
noncomputable def q_b542_9 : ev_H := (bn2470 : e2_Q8)
def bn3460 : e2_Q7 := (bn2368, bn3059)
def bn3461 : e2_Q8 := (bn2362, bn3460)
noncomputable def q_b542_10 : ev_H := (bn3461 : e2_Q8)
def bn3462 : e2_Q7 := (bn2368, bn3062)
def bn3463 : e2_Q8 := (bn2476, bn3462)
noncomputable def q_b542_11 : ev_H := (bn3463 : e2_Q8)
def bn3464 : e2_Q7 := (bn2368, bn3065)
def bn3465 : e2_Q8 := (bn2476, bn3464)
noncomputable def q_b542_12 : ev_H := (bn3465 : e2_Q8)
def bn3466 : e2_Q7 := (bn2368, bn3068)
def bn3467 : e2_Q8 := (bn2476, bn3466)
noncomputable def q_b542_13 : ev_H := (bn3467 : e2_Q8)
def bn3468 : e2_Q8 := (bn2476, bn3460)
noncomputable def q_b542_14 : ev_H := (bn3468 : e2_Q8)
def bn3469 : e2_Q7 := (bn2482, bn3072)
def bn3470 : e2_Q8 := (bn2476, bn3469)
noncomputable def q_b542_15 : ev_H := (bn3470 : e2_Q8)
def bn3471 : e2_Q7 := (bn2482, bn3075)
def bn3472 : e2_Q8 := (bn2476, bn3471)
noncomputable def q_b542_16 : ev_H := (bn3472 : e2_Q8)
def bn3473 : e2_Q7 := (bn2482, bn3078)
def bn3474 : e2_Q8 := (bn2476, bn3473)
noncomputable def q_b542_17 : ev_H := (bn3474 : e2_Q8)
def bn3475 : e2_Q7 := (bn2482, bn3081)
def bn3476 : e2_Q8 := (bn2476, bn3475)
noncomputable def q_b542_18 : ev_H := (bn3476 : e2_Q8)
def bn3477 : e2_Q7 := (bn2482, bn3084)
def bn3478 : e2_Q8 := (bn2476, bn3477)
noncomputable def q_b542_19 : ev_H := (bn3478 : e2_Q8)
def bn3479 : e2_Q7 := (bn2368, bn3087)
def bn3480 : e2_Q8 := (bn2476, bn3479)
noncomputable def q_b542_20 : ev_H := (bn3480 : e2_Q8)
def bn3481 : e2_Q7 := (bn2368, bn3090)
def bn3482 : e2_Q8 := (bn2476, bn3481)
noncomputable def q_b542_21 : ev_H := (bn3482 : e2_Q8)
noncomputable def rs_b542 : e2_Rs := [((9, 0, 0), q_b542_0), ((9, 0, 0), q_b542_1), ((9, 0, 0), q_b542_2), ((9, 0, 0), q_b542_3), ((9, 0, 0), q_b542_4), ((9, 0, 0), q_b542_5), ((9, 0, 0), q_b542_6), ((9, 0, 0), q_b542_7), ((9, 0, 0), q_b542_8), ((9, 0, 0), q_b542_9), ((9, 0, 0), q_b542_10), ((9, 0, 0), q_b542_11), ((9, 0, 0), q_b542_12), ((9, 0, 0), q_b542_13), ((9, 0, 0), q_b542_14), ((9, 0, 0), q_b542_15), ((9, 0, 0), q_b542_16), ((9, 0, 0), q_b542_17), ((9, 0, 0), q_b542_18), ((9, 0, 0), q_b542_19), ((9, 0, 0), q_b542_20), ((9, 0, 0), q_b542_21)]
noncomputable def s_b542 : e2_Sm := (187, as_b542, E_b542, f_b542, rs_b542)
noncomputable def S_b542 : List e2_Sm := [s_b173, s_b178, s_b179, s_b180, s_b181, s_b182, s_b183, s_b184, s_b185, s_b186, s_b187, s_b188, s_b189, s_b190, s_b191, s_b192, s_b193, s_b194, s_b195, s_b196, s_b197, s_b198, s_b199, s_b217, s_b218, s_b219, s_b220, s_b221, s_b249, s_b250, s_b251, s_b252, s_b253, s_b332, s_b333, s_b334, s_b335, s_b336, s_b338, s_b341, s_b344, s_b346, s_b348, s_b450, s_b451, s_b452, s_b453, s_b456, s_b537, s_b538, s_b539, s_b540, s_b541]
noncomputable def I_b542 : List e2_In := [(170, 2, e2x_170), (173, 3, e2x_173), (174, 1, e2x_174), (178, 2, e2x_178), (179, 3, e2x_179), (180, 1, e2x_180), (186, 1, e2x_186)]
set_option maxRecDepth 1000000 in
theorem ck_b542 : e2_run (e2_cal S_b542 I_b542 4000 2) (e2_fin rs_b542) e2x_187 (fun _ => false) (fun _ _ _ _ _ => false) 4000 (e2_seek e2x_187 0) (e2_al 3 as_b542) [] E_b542 f_b542 = true := by decide +kernel
set_option maxRecDepth 1000000 in
theorem co_b542 : e2_okSB E_b542.length as_b542 f_b542 rs_b542 = true := by decide +kernel
theorem cs_b542 (hen : en_ok) (l : Launch) (hh : e2_hand_b l) : e2_smOk l 65 s_b542 := e2_con0 (H := 62) (n := 2) (C := evd_187) (S := S_b542) (I := I_b542) (fuel := 4000) [] hen ei_187 (e2_fa ((cs_b173 hen l).mono (by decide)) (e2_fa ((cs_b178 hen l).mono (by decide)) (e2_fa ((cs_b179 hen l).mono (by decide)) (e2_fa ((cs_b180 hen l).mono (by decide)) (e2_fa ((cs_b181 hen l).mono (by decide)) (e2_fa ((cs_b182 hen l).mono (by decide)) (e2_fa ((cs_b183 hen l).mono (by decide)) (e2_fa ((cs_b184 hen l).mono (by decide)) (e2_fa ((cs_b185 hen l).mono (by decide)) (e2_fa ((cs_b186 hen l).mono (by decide)) (e2_fa ((cs_b187 hen l).mono (by decide)) (e2_fa ((cs_b188 hen l).mono (by decide)) (e2_fa ((cs_b189 hen l).mono (by decide)) (e2_fa ((cs_b190 hen l).mono (by decide)) (e2_fa ((cs_b191 hen l).mono (by decide)) (e2_fa ((cs_b192 hen l).mono (by decide)) (e2_fa ((cs_b193 hen l).mono (by decide)) (e2_fa ((cs_b194 hen l).mono (by decide)) (e2_fa ((cs_b195 hen l).mono (by decide)) (e2_fa ((cs_b196 hen l).mono (by decide)) (e2_fa ((cs_b197 hen l).mono (by decide)) (e2_fa ((cs_b198 hen l).mono (by decide)) (e2_fa ((cs_b199 hen l).mono (by decide)) (e2_fa ((cs_b217 hen l).mono (by decide)) (e2_fa ((cs_b218 hen l).mono (by decide)) (e2_fa ((cs_b219 hen l).mono (by decide)) (e2_fa ((cs_b220 hen l).mono (by decide)) (e2_fa ((cs_b221 hen l).mono (by decide)) (e2_fa ((cs_b249 hen l).mono (by decide)) (e2_fa ((cs_b250 hen l).mono (by decide)) (e2_fa ((cs_b251 hen l).mono (by decide)) (e2_fa ((cs_b252 hen l).mono (by decide)) (e2_fa ((cs_b253 hen l).mono (by decide)) (e2_fa ((cs_b332 hen l hh).mono (by decide)) (e2_fa ((cs_b333 hen l hh).mono (by decide)) (e2_fa ((cs_b334 hen l hh).mono (by decide)) (e2_fa ((cs_b335 hen l hh).mono (by decide)) (e2_fa ((cs_b336 hen l hh).mono (by decide)) (e2_fa ((cs_b338 hen l).mono (by decide)) (e2_fa ((cs_b341 hen l).mono (by decide)) (e2_fa ((cs_b344 hen l).mono (by decide)) (e2_fa ((cs_b346 hen l).mono (by decide)) (e2_fa ((cs_b348 hen l).mono (by decide)) (e2_fa ((cs_b450 hen l).mono (by decide)) (e2_fa ((cs_b451 hen l).mono (by decide)) (e2_fa ((cs_b452 hen l).mono (by decide)) (e2_fa ((cs_b453 hen l).mono (by decide)) (e2_fa ((cs_b456 hen l).mono (by decide)) (e2_fa (cs_b537 hen l hh) (e2_fa (cs_b538 hen l hh) (e2_fa (cs_b539 hen l hh) (e2_fa (cs_b540 hen l hh) (e2_fa (cs_b541 hen l hh) e2_fz))))))))))))))))))))))))))))))))))))))))))))))))))))) (e2_fa ein_170 (e2_fa ein_173 (e2_fa ein_174 (e2_fa ein_178 (e2_fa ein_179 (e2_fa ein_180 (e2_fa ein_186 e2_fz))))))) (by decide) co_b542 ex2_187 ck_b542
