/-! PLACES of the instructions of methods that are walked by hand -/
theorem a214_0 : sy_at e2x_214 0 (o2_push (0, 0, 0)) 1 := ⟨_, _, rfl⟩
theorem a214_1 : sy_at e2x_214 1 (o2_istore 1) 2 := ⟨_, _, rfl⟩
theorem a214_2 : sy_at e2x_214 2 (o2_iload 0) 3 := ⟨_, _, rfl⟩
theorem a214_3 : sy_at e2x_214 3 (o2_istore 2) 4 := ⟨_, _, rfl⟩
theorem a214_4 : sy_at e2x_214 4 (o2_iload 2) 5 := ⟨_, _, rfl⟩
theorem a214_5 : sy_at e2x_214 5 (o2_ifc .eq 20) 8 := ⟨_, _, rfl⟩
theorem a214_8 : sy_at e2x_214 8 (o2_iinc 1 1) 11 := ⟨_, _, rfl⟩
theorem a214_11 : sy_at e2x_214 11 (o2_iload 2) 12 := ⟨_, _, rfl⟩
theorem a214_12 : sy_at e2x_214 12 (o2_iload 2) 13 := ⟨_, _, rfl⟩
theorem a214_13 : sy_at e2x_214 13 (o2_push (0, 1, 0)) 14 := ⟨_, _, rfl⟩
theorem a214_14 : sy_at e2x_214 14 (o2_bin eb_sub tr_sub) 15 := ⟨_, _, rfl⟩
theorem a214_15 : sy_at e2x_214 15 (o2_bin eb_and tr_and) 16 := ⟨_, _, rfl⟩
theorem a214_16 : sy_at e2x_214 16 (o2_istore 2) 17 := ⟨_, _, rfl⟩
theorem a214_17 : sy_ar e2x_214 17 (o2_goto 4) := ⟨_, rfl⟩
theorem a214_20 : sy_at e2x_214 20 (o2_iload 1) 21 := ⟨_, _, rfl⟩
theorem a214_21 : sy_ar e2x_214 21 (o2_iret 0) := ⟨_, rfl⟩
