/-! PLACES of the instructions of methods that are walked by hand -/
theorem ei_247 : e2_mOk 247 1 evd_247 := e2_mOk_of (rfl : e2_MT[247]? = some (⟨"MeadowSignsModel", "undo", "()Z"⟩, prog_12_method_81_code, 1, some .boolean)) (by decide +kernel) (by decide +kernel) ed_247
noncomputable def hx_247 : List e2_X := [(0, o2_aload 0), (1, o2_getf 10 6), (4, o2_ifc .ne 9), (7, o2_push (0, 0, 0)), (8, o2_iret 1), (9, o2_aload 0), (10, o2_dup), (11, o2_getf 10 6), (14, o2_push (0, 1, 0)), (15, o2_bin eb_sub tr_sub), (16, o2_putf 10 6 0), (19, o2_aload 0), (20, o2_dup), (21, o2_getf 10 34), (24, o2_push (0, 1, 0)), (25, o2_bin eb_add tr_add), (26, o2_putf 10 34 0), (29, o2_aload 0), (30, o2_virt 242 0 10), (33, o2_push (0, 1, 0)), (34, o2_iret 1)]
set_option maxRecDepth 100000 in
theorem hxe_247 : hx_247 = (e2_mark [] evd_247).map e2_x := rfl
theorem a247_0 : sy_at hx_247 0 (o2_aload 0) 1 := ⟨_, _, rfl⟩
theorem a247_1 : sy_at hx_247 1 (o2_getf 10 6) 4 := ⟨_, _, rfl⟩
theorem a247_4 : sy_at hx_247 4 (o2_ifc .ne 9) 7 := ⟨_, _, rfl⟩
theorem a247_7 : sy_at hx_247 7 (o2_push (0, 0, 0)) 8 := ⟨_, _, rfl⟩
theorem a247_8 : sy_ar hx_247 8 (o2_iret 1) := ⟨_, rfl⟩
theorem a247_9 : sy_at hx_247 9 (o2_aload 0) 10 := ⟨_, _, rfl⟩
theorem a247_10 : sy_at hx_247 10 (o2_dup) 11 := ⟨_, _, rfl⟩
theorem a247_11 : sy_at hx_247 11 (o2_getf 10 6) 14 := ⟨_, _, rfl⟩
theorem a247_14 : sy_at hx_247 14 (o2_push (0, 1, 0)) 15 := ⟨_, _, rfl⟩
theorem a247_15 : sy_at hx_247 15 (o2_bin eb_sub tr_sub) 16 := ⟨_, _, rfl⟩
theorem a247_16 : sy_at hx_247 16 (o2_putf 10 6 0) 19 := ⟨_, _, rfl⟩
theorem a247_19 : sy_at hx_247 19 (o2_aload 0) 20 := ⟨_, _, rfl⟩
theorem a247_20 : sy_at hx_247 20 (o2_dup) 21 := ⟨_, _, rfl⟩
theorem a247_21 : sy_at hx_247 21 (o2_getf 10 34) 24 := ⟨_, _, rfl⟩
theorem a247_24 : sy_at hx_247 24 (o2_push (0, 1, 0)) 25 := ⟨_, _, rfl⟩
theorem a247_25 : sy_at hx_247 25 (o2_bin eb_add tr_add) 26 := ⟨_, _, rfl⟩
theorem a247_26 : sy_at hx_247 26 (o2_putf 10 34 0) 29 := ⟨_, _, rfl⟩
theorem a247_29 : sy_at hx_247 29 (o2_aload 0) 30 := ⟨_, _, rfl⟩
theorem a247_30 : sy_at hx_247 30 (o2_virt 242 0 10) 33 := ⟨_, _, rfl⟩
theorem a247_33 : sy_at hx_247 33 (o2_push (0, 1, 0)) 34 := ⟨_, _, rfl⟩
theorem a247_34 : sy_ar hx_247 34 (o2_iret 1) := ⟨_, rfl⟩
theorem ei_248 : e2_mOk 248 1 evd_248 := e2_mOk_of (rfl : e2_MT[248]? = some (⟨"MeadowSignsModel", "redo", "()Z"⟩, prog_12_method_82_code, 1, some .boolean)) (by decide +kernel) (by decide +kernel) ed_248
noncomputable def hx_248 : List e2_X := [(0, o2_aload 0), (1, o2_getf 10 34), (4, o2_ifc .ne 9), (7, o2_push (0, 0, 0)), (8, o2_iret 1), (9, o2_aload 0), (10, o2_virt 242 0 10), (13, o2_aload 0), (14, o2_dup), (15, o2_getf 10 6), (18, o2_push (0, 1, 0)), (19, o2_bin eb_add tr_add), (20, o2_putf 10 6 0), (23, o2_aload 0), (24, o2_dup), (25, o2_getf 10 34), (28, o2_push (0, 1, 0)), (29, o2_bin eb_sub tr_sub), (30, o2_putf 10 34 0), (33, o2_push (0, 1, 0)), (34, o2_iret 1)]
set_option maxRecDepth 100000 in
theorem hxe_248 : hx_248 = (e2_mark [] evd_248).map e2_x := rfl
theorem a248_0 : sy_at hx_248 0 (o2_aload 0) 1 := ⟨_, _, rfl⟩
theorem a248_1 : sy_at hx_248 1 (o2_getf 10 34) 4 := ⟨_, _, rfl⟩
theorem a248_4 : sy_at hx_248 4 (o2_ifc .ne 9) 7 := ⟨_, _, rfl⟩
theorem a248_7 : sy_at hx_248 7 (o2_push (0, 0, 0)) 8 := ⟨_, _, rfl⟩
theorem a248_8 : sy_ar hx_248 8 (o2_iret 1) := ⟨_, rfl⟩
theorem a248_9 : sy_at hx_248 9 (o2_aload 0) 10 := ⟨_, _, rfl⟩
theorem a248_10 : sy_at hx_248 10 (o2_virt 242 0 10) 13 := ⟨_, _, rfl⟩
theorem a248_13 : sy_at hx_248 13 (o2_aload 0) 14 := ⟨_, _, rfl⟩
theorem a248_14 : sy_at hx_248 14 (o2_dup) 15 := ⟨_, _, rfl⟩
theorem a248_15 : sy_at hx_248 15 (o2_getf 10 6) 18 := ⟨_, _, rfl⟩
theorem a248_18 : sy_at hx_248 18 (o2_push (0, 1, 0)) 19 := ⟨_, _, rfl⟩
theorem a248_19 : sy_at hx_248 19 (o2_bin eb_add tr_add) 20 := ⟨_, _, rfl⟩
theorem a248_20 : sy_at hx_248 20 (o2_putf 10 6 0) 23 := ⟨_, _, rfl⟩
theorem a248_23 : sy_at hx_248 23 (o2_aload 0) 24 := ⟨_, _, rfl⟩
theorem a248_24 : sy_at hx_248 24 (o2_dup) 25 := ⟨_, _, rfl⟩
theorem a248_25 : sy_at hx_248 25 (o2_getf 10 34) 28 := ⟨_, _, rfl⟩
theorem a248_28 : sy_at hx_248 28 (o2_push (0, 1, 0)) 29 := ⟨_, _, rfl⟩
theorem a248_29 : sy_at hx_248 29 (o2_bin eb_sub tr_sub) 30 := ⟨_, _, rfl⟩
theorem a248_30 : sy_at hx_248 30 (o2_putf 10 34 0) 33 := ⟨_, _, rfl⟩
theorem a248_33 : sy_at hx_248 33 (o2_push (0, 1, 0)) 34 := ⟨_, _, rfl⟩
theorem a248_34 : sy_ar hx_248 34 (o2_iret 1) := ⟨_, rfl⟩
