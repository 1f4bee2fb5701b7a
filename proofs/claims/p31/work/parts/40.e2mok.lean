/-! METHODS: their tables as they are run, and that they are the class's -/
abbrev e2_Q0 : Type := ev_C
abbrev e2_Q1 : Type := e2_Q0 × e2_Q0
abbrev e2_Q2 : Type := e2_Q1 × e2_Q1
abbrev e2_Q3 : Type := e2_Q2 × e2_Q2
abbrev e2_Q4 : Type := e2_Q3 × e2_Q3
abbrev e2_Q5 : Type := e2_Q4 × e2_Q4
abbrev e2_Q6 : Type := e2_Q5 × e2_Q5
abbrev e2_Q7 : Type := e2_Q6 × e2_Q6
abbrev e2_Q8 : Type := e2_Q7 × e2_Q7
theorem e2_mOk_of {k n : Nat} {C : List ev_I} {cls name desc : String} {code : ByteArray} {ret : Option FieldType} {ini : Bool} (hM : e2_MT[k]? = some (⟨cls, name, desc⟩, code, n, ret)) (hi : (name == "<init>") = ini) (hpl : plainName cls = true) (h : e2_chk e2_MT cls ini ret code C = true) : e2_mOk k n C := ⟨_, hM, rfl, hpl, fun S => by subst hi; exact e2_chk_ok S C h⟩
theorem e2_cuts_len {n : Nat} {r0 : List Nat} {cuts : List e2_Cu} (h : r0.length ≤ n) (hc : ∀ cu ∈ cuts, n ≤ cu.2.1.length) : ∀ cu ∈ cuts, r0.length ≤ cu.2.1.length := fun cu hcu => Nat.le_trans h (hc cu hcu)
noncomputable def e2x_9 : List e2_X := (e2_mark [] evd_9).map e2_x
theorem ei_9 : e2_mOk 9 4 evd_9 := e2_mOk_of (rfl : e2_MT[9]? = some (⟨"MeadowSigns$State", "saveTo", "([II)V"⟩, prog_8_method_4_code, 4, none)) (by decide +kernel) (by decide +kernel) ed_9
theorem ein_9 : e2_inOk (9, 4, e2x_9) := ⟨[], _, _, rfl, rfl, ei_9⟩
noncomputable def e2x_16 : List e2_X := (e2_mark [] evd_16).map e2_x
theorem ei_16 : e2_mOk 16 1 evd_16 := e2_mOk_of (rfl : e2_MT[16]? = some (⟨"MeadowSigns$Formula", "clear", "()V"⟩, prog_2_method_2_code, 1, none)) (by decide +kernel) (by decide +kernel) ed_16
theorem ein_16 : e2_inOk (16, 1, e2x_16) := ⟨[], _, _, rfl, rfl, ei_16⟩
noncomputable def e2x_17 : List e2_X := (e2_mark [] evd_17).map e2_x
theorem ei_17 : e2_mOk 17 1 evd_17 := e2_mOk_of (rfl : e2_MT[17]? = some (⟨"MeadowSigns$Formula", "isTold", "()Z"⟩, prog_2_method_3_code, 1, some .boolean)) (by decide +kernel) (by decide +kernel) ed_17
theorem ein_17 : e2_inOk (17, 1, e2x_17) := ⟨[], _, _, rfl, rfl, ei_17⟩
noncomputable def e2x_18 : List e2_X := (e2_mark [] evd_18).map e2_x
theorem ei_18 : e2_mOk 18 2 evd_18 := e2_mOk_of (rfl : e2_MT[18]? = some (⟨"MeadowSigns$Formula", "addNumber", "(I)V"⟩, prog_2_method_4_code, 2, none)) (by decide +kernel) (by decide +kernel) ed_18
theorem ein_18 : e2_inOk (18, 2, e2x_18) := ⟨[], _, _, rfl, rfl, ei_18⟩
noncomputable def e2x_19 : List e2_X := (e2_mark [] evd_19).map e2_x
theorem ei_19 : e2_mOk 19 2 evd_19 := e2_mOk_of (rfl : e2_MT[19]? = some (⟨"MeadowSigns$Formula", "addKind", "(I)V"⟩, prog_2_method_5_code, 2, none)) (by decide +kernel) (by decide +kernel) ed_19
theorem ein_19 : e2_inOk (19, 2, e2x_19) := ⟨[], _, _, rfl, rfl, ei_19⟩
noncomputable def e2x_20 : List e2_X := (e2_mark [] evd_20).map e2_x
theorem ei_20 : e2_mOk 20 2 evd_20 := e2_mOk_of (rfl : e2_MT[20]? = some (⟨"MeadowSigns$Formula", "add", "(I)V"⟩, prog_2_method_6_code, 2, none)) (by decide +kernel) (by decide +kernel) ed_20
theorem ein_20 : e2_inOk (20, 2, e2x_20) := ⟨[], _, _, rfl, rfl, ei_20⟩
noncomputable def e2x_21 : List e2_X := (e2_mark [] evd_21).map e2_x
theorem ei_21 : e2_mOk 21 6 evd_21 := e2_mOk_of (rfl : e2_MT[21]? = some (⟨"MeadowSigns$Formula", "valueBy", "([I)I"⟩, prog_2_method_7_code, 6, some .int)) (by decide +kernel) (by decide +kernel) ed_21
noncomputable def e2x_22 : List e2_X := (e2_mark [] evd_22).map e2_x
theorem ei_22 : e2_mOk 22 3 evd_22 := e2_mOk_of (rfl : e2_MT[22]? = some (⟨"MeadowSigns$Formula", "join", "(III)I"⟩, prog_2_method_8_code, 3, some .int)) (by decide +kernel) (by decide +kernel) ed_22
noncomputable def e2x_24 : List e2_X := (e2_mark [] evd_24).map e2_x
theorem ei_24 : e2_mOk 24 2 evd_24 := e2_mOk_of (rfl : e2_MT[24]? = some (⟨"MeadowSigns$Hearsay", "isOne", "(I)Z"⟩, prog_3_method_3_code, 2, some .boolean)) (by decide +kernel) (by decide +kernel) ed_24
theorem ein_24 : e2_inOk (24, 2, e2x_24) := ⟨[], _, _, rfl, rfl, ei_24⟩
noncomputable def e2x_25 : List e2_X := (e2_mark [] evd_25).map e2_x
theorem ei_25 : e2_mOk 25 3 evd_25 := e2_mOk_of (rfl : e2_MT[25]? = some (⟨"MeadowSigns$Hearsay", "pairOf", "(II)I"⟩, prog_3_method_4_code, 3, some .int)) (by decide +kernel) (by decide +kernel) ed_25
theorem ein_25 : e2_inOk (25, 3, e2x_25) := ⟨[], _, _, rfl, rfl, ei_25⟩
noncomputable def e2x_26 : List e2_X := (e2_mark [] evd_26).map e2_x
theorem ei_26 : e2_mOk 26 5 evd_26 := e2_mOk_of (rfl : e2_MT[26]? = some (⟨"MeadowSigns$Hearsay", "hear", "(IIIZ)I"⟩, prog_3_method_5_code, 5, some .int)) (by decide +kernel) (by decide +kernel) ed_26
noncomputable def e2x_29 : List e2_X := (e2_mark [] evd_29).map e2_x
theorem ei_29 : e2_mOk 29 3 evd_29 := e2_mOk_of (rfl : e2_MT[29]? = some (⟨"MeadowSigns$Hearsay", "counts", "(II)Z"⟩, prog_3_method_8_code, 3, some .boolean)) (by decide +kernel) (by decide +kernel) ed_29
theorem ein_29 : e2_inOk (29, 3, e2x_29) := ⟨[], _, _, rfl, rfl, ei_29⟩
noncomputable def e2x_30 : List e2_X := (e2_mark [] evd_30).map e2_x
theorem ei_30 : e2_mOk 30 7 evd_30 := e2_mOk_of (rfl : e2_MT[30]? = some (⟨"MeadowSigns$Hearsay", "grammars", "(II)I"⟩, prog_3_method_9_code, 7, some .int)) (by decide +kernel) (by decide +kernel) ed_30
noncomputable def e2x_31 : List e2_X := (e2_mark [] evd_31).map e2_x
theorem ei_31 : e2_mOk 31 3 evd_31 := e2_mOk_of (rfl : e2_MT[31]? = some (⟨"MeadowSigns$Hearsay", "setAgainst", "(I)V"⟩, prog_3_method_10_code, 3, none)) (by decide +kernel) (by decide +kernel) ed_31
noncomputable def e2x_32 : List e2_X := (e2_mark [] evd_32).map e2_x
theorem ei_32 : e2_mOk 32 6 evd_32 := e2_mOk_of (rfl : e2_MT[32]? = some (⟨"MeadowSigns$Hearsay", "choicesFrom", "(II)I"⟩, prog_3_method_11_code, 6, some .int)) (by decide +kernel) (by decide +kernel) ed_32
noncomputable def e2x_33 : List e2_X := (e2_mark [] evd_33).map e2_x
theorem ei_33 : e2_mOk 33 6 evd_33 := e2_mOk_of (rfl : e2_MT[33]? = some (⟨"MeadowSigns$Hearsay", "certainty", "(III)I"⟩, prog_3_method_12_code, 6, some .int)) (by decide +kernel) (by decide +kernel) ed_33
noncomputable def e2x_34 : List e2_X := (e2_mark [] evd_34).map e2_x
theorem ei_34 : e2_mOk 34 10 evd_34 := e2_mOk_of (rfl : e2_MT[34]? = some (⟨"MeadowSigns$Hearsay", "question", "(II)I"⟩, prog_3_method_13_code, 10, some .int)) (by decide +kernel) (by decide +kernel) ed_34
noncomputable def e2x_35 : List e2_X := (e2_mark [] evd_35).map e2_x
theorem ei_35 : e2_mOk 35 2 evd_35 := e2_mOk_of (rfl : e2_MT[35]? = some (⟨"MeadowSigns$History", "keep", "(LMeadowSigns$State;)V"⟩, prog_4_method_3_code, 2, none)) (by decide +kernel) (by decide +kernel) ed_35
theorem ein_35 : e2_inOk (35, 2, e2x_35) := ⟨[], _, _, rfl, rfl, ei_35⟩
noncomputable def e2x_36 : List e2_X := (e2_mark [] evd_36).map e2_x
theorem ei_36 : e2_mOk 36 1 evd_36 := e2_mOk_of (rfl : e2_MT[36]? = some (⟨"MeadowSigns$History", "slot", "()I"⟩, prog_4_method_4_code, 1, some .int)) (by decide +kernel) (by decide +kernel) ed_36
theorem ein_36 : e2_inOk (36, 1, e2x_36) := ⟨[], _, _, rfl, rfl, ei_36⟩
noncomputable def e2x_43 : List e2_X := (e2_mark [] evd_43).map e2_x
theorem ei_43 : e2_mOk 43 2 evd_43 := e2_mOk_of (rfl : e2_MT[43]? = some (⟨"MeadowSigns$Parser", "refuse", "(I)Z"⟩, prog_5_method_3_code, 2, some .boolean)) (by decide +kernel) (by decide +kernel) ed_43
theorem ein_43 : e2_inOk (43, 2, e2x_43) := ⟨[], _, _, rfl, rfl, ei_43⟩
noncomputable def e2x_44 : List e2_X := (e2_mark [] evd_44).map e2_x
theorem ei_44 : e2_mOk 44 3 evd_44 := e2_mOk_of (rfl : e2_MT[44]? = some (⟨"MeadowSigns$Parser", "refuseAt", "(II)Z"⟩, prog_5_method_4_code, 3, some .boolean)) (by decide +kernel) (by decide +kernel) ed_44
theorem ein_44 : e2_inOk (44, 3, e2x_44) := ⟨[], _, _, rfl, rfl, ei_44⟩
noncomputable def e2x_45 : List e2_X := (e2_mark [] evd_45).map e2_x
theorem ei_45 : e2_mOk 45 2 evd_45 := e2_mOk_of (rfl : e2_MT[45]? = some (⟨"MeadowSigns$Parser", "expect", "(I)Z"⟩, prog_5_method_5_code, 2, some .boolean)) (by decide +kernel) (by decide +kernel) ed_45
noncomputable def e2x_46 : List e2_X := (e2_mark [] evd_46).map e2_x
theorem ei_46 : e2_mOk 46 3 evd_46 := e2_mOk_of (rfl : e2_MT[46]? = some (⟨"MeadowSigns$Parser", "isNumber", "(II)Z"⟩, prog_5_method_6_code, 3, some .boolean)) (by decide +kernel) (by decide +kernel) ed_46
theorem ein_46 : e2_inOk (46, 3, e2x_46) := ⟨[], _, _, rfl, rfl, ei_46⟩
noncomputable def e2x_47 : List e2_X := (e2_mark [] evd_47).map e2_x
theorem ei_47 : e2_mOk 47 3 evd_47 := e2_mOk_of (rfl : e2_MT[47]? = some (⟨"MeadowSigns$Parser", "passNumber", "(II)Z"⟩, prog_5_method_7_code, 3, some .boolean)) (by decide +kernel) (by decide +kernel) ed_47
noncomputable def e2x_48 : List e2_X := (e2_mark [] evd_48).map e2_x
theorem ei_48 : e2_mOk 48 5 evd_48 := e2_mOk_of (rfl : e2_MT[48]? = some (⟨"MeadowSigns$Parser", "indexOf", "(J[JI)I"⟩, prog_5_method_8_code, 5, some .int)) (by decide +kernel) (by decide +kernel) ed_48
noncomputable def e2x_50 : List e2_X := (e2_mark [] evd_50).map e2_x
theorem ei_50 : e2_mOk 50 3 evd_50 := e2_mOk_of (rfl : e2_MT[50]? = some (⟨"MeadowSigns$Parser", "isKnownName", "([JI)Z"⟩, prog_5_method_10_code, 3, some .boolean)) (by decide +kernel) (by decide +kernel) ed_50
noncomputable def e2x_56 : List e2_X := (e2_mark [] evd_56).map e2_x
theorem ei_56 : e2_mOk 56 1 evd_56 := e2_mOk_of (rfl : e2_MT[56]? = some (⟨"MeadowSigns$Parser", "parseBarn", "()Z"⟩, prog_5_method_16_code, 1, some .boolean)) (by decide +kernel) (by decide +kernel) ed_56
noncomputable def e2x_57 : List e2_X := (e2_mark [] evd_57).map e2_x
theorem ei_57 : e2_mOk 57 1 evd_57 := e2_mOk_of (rfl : e2_MT[57]? = some (⟨"MeadowSigns$Parser", "parseDraw", "()Z"⟩, prog_5_method_17_code, 1, some .boolean)) (by decide +kernel) (by decide +kernel) ed_57
noncomputable def e2x_58 : List e2_X := (e2_mark [] evd_58).map e2_x
theorem ei_58 : e2_mOk 58 2 evd_58 := e2_mOk_of (rfl : e2_MT[58]? = some (⟨"MeadowSigns$Parser", "parseFormula", "(LMeadowSigns$Formula;)Z"⟩, prog_5_method_18_code, 2, some .boolean)) (by decide +kernel) (by decide +kernel) ed_58
noncomputable def e2x_59 : List e2_X := (e2_mark [] evd_59).map e2_x
theorem ei_59 : e2_mOk 59 7 evd_59 := e2_mOk_of (rfl : e2_MT[59]? = some (⟨"MeadowSigns$Parser", "parseLevel", "(LMeadowSigns$Formula;II)Z"⟩, prog_5_method_19_code, 7, some .boolean)) (by decide +kernel) (by decide +kernel) ed_59
noncomputable def e2x_60 : List e2_X := (e2_mark [] evd_60).map e2_x
theorem ei_60 : e2_mOk 60 1 evd_60 := e2_mOk_of (rfl : e2_MT[60]? = some (⟨"MeadowSigns$Parser", "levelOf", "(I)I"⟩, prog_5_method_20_code, 1, some .int)) (by decide +kernel) (by decide +kernel) ed_60
theorem ein_60 : e2_inOk (60, 1, e2x_60) := ⟨[], _, _, rfl, rfl, ei_60⟩
noncomputable def e2x_61 : List e2_X := (e2_mark [] evd_61).map e2_x
theorem ei_61 : e2_mOk 61 3 evd_61 := e2_mOk_of (rfl : e2_MT[61]? = some (⟨"MeadowSigns$Parser", "parseNot", "(LMeadowSigns$Formula;I)Z"⟩, prog_5_method_21_code, 3, some .boolean)) (by decide +kernel) (by decide +kernel) ed_61
noncomputable def e2x_62 : List e2_X := (e2_mark [] evd_62).map e2_x
theorem ei_62 : e2_mOk 62 7 evd_62 := e2_mOk_of (rfl : e2_MT[62]? = some (⟨"MeadowSigns$Parser", "parseUnit", "(LMeadowSigns$Formula;I)Z"⟩, prog_5_method_22_code, 7, some .boolean)) (by decide +kernel) (by decide +kernel) ed_62
noncomputable def e2x_63 : List e2_X := (e2_mark [] evd_63).map e2_x
theorem ei_63 : e2_mOk 63 1 evd_63 := e2_mOk_of (rfl : e2_MT[63]? = some (⟨"MeadowSigns$Planner", "clear", "()V"⟩, prog_6_method_2_code, 1, none)) (by decide +kernel) (by decide +kernel) ed_63
theorem ein_63 : e2_inOk (63, 1, e2x_63) := ⟨[], _, _, rfl, rfl, ei_63⟩
noncomputable def e2x_64 : List e2_X := (e2_mark [] evd_64).map e2_x
theorem ei_64 : e2_mOk 64 2 evd_64 := e2_mOk_of (rfl : e2_MT[64]? = some (⟨"MeadowSigns$Planner", "lay", "(I)V"⟩, prog_6_method_3_code, 2, none)) (by decide +kernel) (by decide +kernel) ed_64
theorem ein_64 : e2_inOk (64, 2, e2x_64) := ⟨[], _, _, rfl, rfl, ei_64⟩
noncomputable def e2x_66 : List e2_X := (e2_mark [] evd_66).map e2_x
theorem ei_66 : e2_mOk 66 3 evd_66 := e2_mOk_of (rfl : e2_MT[66]? = some (⟨"MeadowSigns$Planner", "begin", "(LMeadowSigns$Told;LMeadowSigns$State;)V"⟩, prog_6_method_5_code, 3, none)) (by decide +kernel) (by decide +kernel) ed_66
noncomputable def e2x_67 : List e2_X := (e2_mark [] evd_67).map e2_x
theorem ei_67 : e2_mOk 67 2 evd_67 := e2_mOk_of (rfl : e2_MT[67]? = some (⟨"MeadowSigns$Planner", "harms", "(I)Z"⟩, prog_6_method_6_code, 2, some .boolean)) (by decide +kernel) (by decide +kernel) ed_67
noncomputable def e2x_68 : List e2_X := (e2_mark [] evd_68).map e2_x
theorem ei_68 : e2_mOk 68 3 evd_68 := e2_mOk_of (rfl : e2_MT[68]? = some (⟨"MeadowSigns$Planner", "gainBy", "(II)I"⟩, prog_6_method_7_code, 3, some .int)) (by decide +kernel) (by decide +kernel) ed_68
noncomputable def e2x_70 : List e2_X := (e2_mark [] evd_70).map e2_x
theorem ei_70 : e2_mOk 70 2 evd_70 := e2_mOk_of (rfl : e2_MT[70]? = some (⟨"MeadowSigns$Planner", "wishForOneReading", "()Z"⟩, prog_6_method_9_code, 2, some .boolean)) (by decide +kernel) (by decide +kernel) ed_70
noncomputable def e2x_73 : List e2_X := (e2_mark [] evd_73).map e2_x
theorem ei_73 : e2_mOk 73 3 evd_73 := e2_mOk_of (rfl : e2_MT[73]? = some (⟨"MeadowSigns$Planner", "meetsGoal", "(I)Z"⟩, prog_6_method_12_code, 3, some .boolean)) (by decide +kernel) (by decide +kernel) ed_73
noncomputable def e2x_74 : List e2_X := (e2_mark [] evd_74).map e2_x
theorem ei_74 : e2_mOk 74 2 evd_74 := e2_mOk_of (rfl : e2_MT[74]? = some (⟨"MeadowSigns$Planner", "hasWantedSigns", "()Z"⟩, prog_6_method_13_code, 2, some .boolean)) (by decide +kernel) (by decide +kernel) ed_74
noncomputable def e2x_75 : List e2_X := (e2_mark [7] evd_75).map e2_x
theorem ei_75 : e2_mOk 75 5 evd_75 := e2_mOk_of (rfl : e2_MT[75]? = some (⟨"MeadowSigns$Planner", "countOrders", "(I)I"⟩, prog_6_method_14_code, 5, some .int)) (by decide +kernel) (by decide +kernel) ed_75
noncomputable def e2x_76 : List e2_X := (e2_mark [] evd_76).map e2_x
theorem ei_76 : e2_mOk 76 4 evd_76 := e2_mOk_of (rfl : e2_MT[76]? = some (⟨"MeadowSigns$Planner", "listMembers", "(I)I"⟩, prog_6_method_15_code, 4, some .int)) (by decide +kernel) (by decide +kernel) ed_76
noncomputable def e2x_77 : List e2_X := (e2_mark [] evd_77).map e2_x
theorem ei_77 : e2_mOk 77 5 evd_77 := e2_mOk_of (rfl : e2_MT[77]? = some (⟨"MeadowSigns$Planner", "cellsOfPart", "(II)I"⟩, prog_6_method_16_code, 5, some .int)) (by decide +kernel) (by decide +kernel) ed_77
noncomputable def e2x_78 : List e2_X := (e2_mark [27] evd_78).map e2_x
theorem ei_78 : e2_mOk 78 5 evd_78 := e2_mOk_of (rfl : e2_MT[78]? = some (⟨"MeadowSigns$Planner", "waysOn", "(II)I"⟩, prog_6_method_17_code, 5, some .int)) (by decide +kernel) (by decide +kernel) ed_78
noncomputable def e2x_79 : List e2_X := (e2_mark [37, 68] evd_79).map e2_x
theorem ei_79 : e2_mOk 79 6 evd_79 := e2_mOk_of (rfl : e2_MT[79]? = some (⟨"MeadowSigns$Planner", "layFirstOrder", "(I)V"⟩, prog_6_method_18_code, 6, none)) (by decide +kernel) (by decide +kernel) ed_79
noncomputable def e2x_80 : List e2_X := (e2_mark [] evd_80).map e2_x
theorem ei_80 : e2_mOk 80 6 evd_80 := e2_mOk_of (rfl : e2_MT[80]? = some (⟨"MeadowSigns$Planner", "placeFor", "(III)I"⟩, prog_6_method_19_code, 6, some .int)) (by decide +kernel) (by decide +kernel) ed_80
noncomputable def e2x_81 : List e2_X := (e2_mark [60, 62] evd_81).map e2_x
theorem ei_81 : e2_mOk 81 7 evd_81 := e2_mOk_of (rfl : e2_MT[81]? = some (⟨"MeadowSigns$Planner", "placeFrom", "(III)Z"⟩, prog_6_method_20_code, 7, some .boolean)) (by decide +kernel) (by decide +kernel) ed_81
noncomputable def e2x_82 : List e2_X := (e2_mark [] evd_82).map e2_x
theorem ei_82 : e2_mOk 82 3 evd_82 := e2_mOk_of (rfl : e2_MT[82]? = some (⟨"MeadowSigns$Planner", "harmfulCells", "()I"⟩, prog_6_method_21_code, 3, some .int)) (by decide +kernel) (by decide +kernel) ed_82
noncomputable def e2x_83 : List e2_X := (e2_mark [] evd_83).map e2_x
theorem ei_83 : e2_mOk 83 5 evd_83 := e2_mOk_of (rfl : e2_MT[83]? = some (⟨"MeadowSigns$Planner", "losingCells", "(I)I"⟩, prog_6_method_22_code, 5, some .int)) (by decide +kernel) (by decide +kernel) ed_83
noncomputable def e2x_84 : List e2_X := (e2_mark [] evd_84).map e2_x
theorem ei_84 : e2_mOk 84 11 evd_84 := e2_mOk_of (rfl : e2_MT[84]? = some (⟨"MeadowSigns$Planner", "fight", "(IIII)I"⟩, prog_6_method_23_code, 11, some .int)) (by decide +kernel) (by decide +kernel) ed_84
noncomputable def e2x_85 : List e2_X := (e2_mark [] evd_85).map e2_x
theorem ei_85 : e2_mOk 85 8 evd_85 := e2_mOk_of (rfl : e2_MT[85]? = some (⟨"MeadowSigns$Planner", "worstReply", "(III)I"⟩, prog_6_method_24_code, 8, some .int)) (by decide +kernel) (by decide +kernel) ed_85
noncomputable def e2x_86 : List e2_X := (e2_mark [] evd_86).map e2_x
theorem ei_86 : e2_mOk 86 6 evd_86 := e2_mOk_of (rfl : e2_MT[86]? = some (⟨"MeadowSigns$Reader", "begin", "(LMeadowSigns$Told;LMeadowSigns$State;I)V"⟩, prog_7_method_2_code, 6, none)) (by decide +kernel) (by decide +kernel) ed_86
noncomputable def e2x_87 : List e2_X := (e2_mark [] evd_87).map e2_x
theorem ei_87 : e2_mOk 87 4 evd_87 := e2_mOk_of (rfl : e2_MT[87]? = some (⟨"MeadowSigns$Reader", "weighEverywhere", "(II)V"⟩, prog_7_method_3_code, 4, none)) (by decide +kernel) (by decide +kernel) ed_87
noncomputable def e2x_88 : List e2_X := (e2_mark [] evd_88).map e2_x
theorem ei_88 : e2_mOk 88 4 evd_88 := e2_mOk_of (rfl : e2_MT[88]? = some (⟨"MeadowSigns$Reader", "read", "(I)I"⟩, prog_7_method_4_code, 4, some .int)) (by decide +kernel) (by decide +kernel) ed_88
noncomputable def e2x_89 : List e2_X := (e2_mark [] evd_89).map e2_x
theorem ei_89 : e2_mOk 89 1 evd_89 := e2_mOk_of (rfl : e2_MT[89]? = some (⟨"MeadowSigns$Reader", "greatest", "()I"⟩, prog_7_method_5_code, 1, some .int)) (by decide +kernel) (by decide +kernel) ed_89
theorem ein_89 : e2_inOk (89, 1, e2x_89) := ⟨[], _, _, rfl, rfl, ei_89⟩
noncomputable def e2x_90 : List e2_X := (e2_mark [] evd_90).map e2_x
theorem ei_90 : e2_mOk 90 5 evd_90 := e2_mOk_of (rfl : e2_MT[90]? = some (⟨"MeadowSigns$Reader", "answerAt", "(II)I"⟩, prog_7_method_6_code, 5, some .int)) (by decide +kernel) (by decide +kernel) ed_90
theorem ein_90 : e2_inOk (90, 5, e2x_90) := ⟨[], _, _, rfl, rfl, ei_90⟩
noncomputable def e2x_91 : List e2_X := (e2_mark [56, 58, 81] evd_91).map e2_x
theorem ei_91 : e2_mOk 91 5 evd_91 := e2_mOk_of (rfl : e2_MT[91]? = some (⟨"MeadowSigns$Reader", "settle", "(I)V"⟩, prog_7_method_7_code, 5, none)) (by decide +kernel) (by decide +kernel) ed_91
noncomputable def e2x_92 : List e2_X := (e2_mark [] evd_92).map e2_x
theorem ei_92 : e2_mOk 92 4 evd_92 := e2_mOk_of (rfl : e2_MT[92]? = some (⟨"MeadowSigns$Reader", "goesOn", "(II)Z"⟩, prog_7_method_8_code, 4, some .boolean)) (by decide +kernel) (by decide +kernel) ed_92
theorem ein_92 : e2_inOk (92, 4, e2x_92) := ⟨[], _, _, rfl, rfl, ei_92⟩
noncomputable def e2x_93 : List e2_X := (e2_mark [] evd_93).map e2_x
theorem ei_93 : e2_mOk 93 7 evd_93 := e2_mOk_of (rfl : e2_MT[93]? = some (⟨"MeadowSigns$Reader", "choose", "(III)V"⟩, prog_7_method_9_code, 7, none)) (by decide +kernel) (by decide +kernel) ed_93
noncomputable def e2x_95 : List e2_X := (e2_mark [] evd_95).map e2_x
theorem ei_95 : e2_mOk 95 4 evd_95 := e2_mOk_of (rfl : e2_MT[95]? = some (⟨"MeadowSigns$Reader", "gainOf", "(I)I"⟩, prog_7_method_11_code, 4, some .int)) (by decide +kernel) (by decide +kernel) ed_95
noncomputable def e2x_96 : List e2_X := (e2_mark [] evd_96).map e2_x
theorem ei_96 : e2_mOk 96 2 evd_96 := e2_mOk_of (rfl : e2_MT[96]? = some (⟨"MeadowSigns$Reader", "takesAway", "()Z"⟩, prog_7_method_12_code, 2, some .boolean)) (by decide +kernel) (by decide +kernel) ed_96
noncomputable def e2x_97 : List e2_X := (e2_mark [] evd_97).map e2_x
theorem ei_97 : e2_mOk 97 4 evd_97 := e2_mOk_of (rfl : e2_MT[97]? = some (⟨"MeadowSigns$Reader", "cellsOf", "(I)I"⟩, prog_7_method_13_code, 4, some .int)) (by decide +kernel) (by decide +kernel) ed_97
noncomputable def e2x_98 : List e2_X := (e2_mark [] evd_98).map e2_x
theorem ei_98 : e2_mOk 98 3 evd_98 := e2_mOk_of (rfl : e2_MT[98]? = some (⟨"MeadowSigns$Reader", "signAt", "(I)I"⟩, prog_7_method_14_code, 3, some .int)) (by decide +kernel) (by decide +kernel) ed_98
noncomputable def e2x_99 : List e2_X := (e2_mark [] evd_99).map e2_x
theorem ei_99 : e2_mOk 99 2 evd_99 := e2_mOk_of (rfl : e2_MT[99]? = some (⟨"MeadowSigns$State", "copy", "(LMeadowSigns$State;)V"⟩, prog_8_method_3_code, 2, none)) (by decide +kernel) (by decide +kernel) ed_99
theorem ein_99 : e2_inOk (99, 2, e2x_99) := ⟨[], _, _, rfl, rfl, ei_99⟩
noncomputable def e2x_101 : List e2_X := (e2_mark [] evd_101).map e2_x
theorem ei_101 : e2_mOk 101 2 evd_101 := e2_mOk_of (rfl : e2_MT[101]? = some (⟨"MeadowSigns$State", "cut", "(I)V"⟩, prog_8_method_6_code, 2, none)) (by decide +kernel) (by decide +kernel) ed_101
theorem ein_101 : e2_inOk (101, 2, e2x_101) := ⟨[], _, _, rfl, rfl, ei_101⟩
noncomputable def e2x_102 : List e2_X := (e2_mark [] evd_102).map e2_x
theorem ei_102 : e2_mOk 102 3 evd_102 := e2_mOk_of (rfl : e2_MT[102]? = some (⟨"MeadowSigns$State", "add", "(II)V"⟩, prog_8_method_7_code, 3, none)) (by decide +kernel) (by decide +kernel) ed_102
theorem ein_102 : e2_inOk (102, 3, e2x_102) := ⟨[], _, _, rfl, rfl, ei_102⟩
noncomputable def e2x_103 : List e2_X := (e2_mark [] evd_103).map e2_x
theorem ei_103 : e2_mOk 103 3 evd_103 := e2_mOk_of (rfl : e2_MT[103]? = some (⟨"MeadowSigns$State", "turnYear", "(LMeadowSigns$Told;)V"⟩, prog_8_method_8_code, 3, none)) (by decide +kernel) (by decide +kernel) ed_103
noncomputable def e2x_104 : List e2_X := (e2_mark [] evd_104).map e2_x
theorem ei_104 : e2_mOk 104 2 evd_104 := e2_mOk_of (rfl : e2_MT[104]? = some (⟨"MeadowSigns$Tape", "hasRoom", "(I)Z"⟩, prog_9_method_2_code, 2, some .boolean)) (by decide +kernel) (by decide +kernel) ed_104
theorem ein_104 : e2_inOk (104, 2, e2x_104) := ⟨[], _, _, rfl, rfl, ei_104⟩
noncomputable def e2x_105 : List e2_X := (e2_mark [] evd_105).map e2_x
theorem ei_105 : e2_mOk 105 3 evd_105 := e2_mOk_of (rfl : e2_MT[105]? = some (⟨"MeadowSigns$Tape", "putFour", "(I)V"⟩, prog_9_method_3_code, 3, none)) (by decide +kernel) (by decide +kernel) ed_105
noncomputable def e2x_107 : List e2_X := (e2_mark [] evd_107).map e2_x
theorem ei_107 : e2_mOk 107 1 evd_107 := e2_mOk_of (rfl : e2_MT[107]? = some (⟨"MeadowSigns$Tape", "begin", "()V"⟩, prog_9_method_5_code, 1, none)) (by decide +kernel) (by decide +kernel) ed_107
noncomputable def e2x_108 : List e2_X := (e2_mark [] evd_108).map e2_x
theorem ei_108 : e2_mOk 108 1 evd_108 := e2_mOk_of (rfl : e2_MT[108]? = some (⟨"MeadowSigns$Tape", "advance", "()V"⟩, prog_9_method_6_code, 1, none)) (by decide +kernel) (by decide +kernel) ed_108
noncomputable def e2x_109 : List e2_X := (e2_mark [] evd_109).map e2_x
theorem ei_109 : e2_mOk 109 2 evd_109 := e2_mOk_of (rfl : e2_MT[109]? = some (⟨"MeadowSigns$Tape", "isLetterAt", "(I)Z"⟩, prog_9_method_7_code, 2, some .boolean)) (by decide +kernel) (by decide +kernel) ed_109
theorem ein_109 : e2_inOk (109, 2, e2x_109) := ⟨[], _, _, rfl, rfl, ei_109⟩
noncomputable def e2x_110 : List e2_X := (e2_mark [] evd_110).map e2_x
theorem ei_110 : e2_mOk 110 2 evd_110 := e2_mOk_of (rfl : e2_MT[110]? = some (⟨"MeadowSigns$Tape", "isDigitAt", "(I)Z"⟩, prog_9_method_8_code, 2, some .boolean)) (by decide +kernel) (by decide +kernel) ed_110
theorem ein_110 : e2_inOk (110, 2, e2x_110) := ⟨[], _, _, rfl, rfl, ei_110⟩
noncomputable def e2x_111 : List e2_X := (e2_mark [] evd_111).map e2_x
theorem ei_111 : e2_mOk 111 1 evd_111 := e2_mOk_of (rfl : e2_MT[111]? = some (⟨"MeadowSigns$Tape", "readWord", "()V"⟩, prog_9_method_9_code, 1, none)) (by decide +kernel) (by decide +kernel) ed_111
noncomputable def e2x_113 : List e2_X := (e2_mark [] evd_113).map e2_x
theorem ei_113 : e2_mOk 113 1 evd_113 := e2_mOk_of (rfl : e2_MT[113]? = some (⟨"MeadowSigns$Tape", "readNumber", "()V"⟩, prog_9_method_11_code, 1, none)) (by decide +kernel) (by decide +kernel) ed_113
noncomputable def e2x_117 : List e2_X := (e2_mark [] evd_117).map e2_x
theorem ei_117 : e2_mOk 117 2 evd_117 := e2_mOk_of (rfl : e2_MT[117]? = some (⟨"MeadowSigns$Told", "clear", "()V"⟩, prog_10_method_2_code, 2, none)) (by decide +kernel) (by decide +kernel) ed_117
noncomputable def e2x_121 : List e2_X := (e2_mark [] evd_121).map e2_x
theorem ei_121 : e2_mOk 121 5 evd_121 := e2_mOk_of (rfl : e2_MT[121]? = some (⟨"MeadowSigns$Told", "fits", "(III)Z"⟩, prog_10_method_6_code, 5, some .boolean)) (by decide +kernel) (by decide +kernel) ed_121
theorem ein_121 : e2_inOk (121, 5, e2x_121) := ⟨[], _, _, rfl, rfl, ei_121⟩
noncomputable def e2x_122 : List e2_X := (e2_mark [] evd_122).map e2_x
theorem ei_122 : e2_mOk 122 2 evd_122 := e2_mOk_of (rfl : e2_MT[122]? = some (⟨"MeadowSigns$Told", "mownLetters", "(I)I"⟩, prog_10_method_7_code, 2, some .int)) (by decide +kernel) (by decide +kernel) ed_122
theorem ein_122 : e2_inOk (122, 2, e2x_122) := ⟨[], _, _, rfl, rfl, ei_122⟩
noncomputable def e2x_123 : List e2_X := (e2_mark [] evd_123).map e2_x
theorem ei_123 : e2_mOk 123 7 evd_123 := e2_mOk_of (rfl : e2_MT[123]? = some (⟨"MeadowSigns", "feed", "(IIIII)I"⟩, prog_1_method_2_code, 7, some .int)) (by decide +kernel) (by decide +kernel) ed_123
noncomputable def e2x_128 : List e2_X := (e2_mark [] evd_128).map e2_x
theorem ei_128 : e2_mOk 128 3 evd_128 := e2_mOk_of (rfl : e2_MT[128]? = some (⟨"MeadowSigns", "glyph", "(II)I"⟩, prog_1_method_7_code, 3, some .int)) (by decide +kernel) (by decide +kernel) ed_128
noncomputable def e2x_129 : List e2_X := (e2_mark [] evd_129).map e2_x
theorem ei_129 : e2_mOk 129 4 evd_129 := e2_mOk_of (rfl : e2_MT[129]? = some (⟨"MeadowSigns", "plot", "(II)I"⟩, prog_1_method_8_code, 4, some .int)) (by decide +kernel) (by decide +kernel) ed_129
noncomputable def e2x_132 : List e2_X := (e2_mark [] evd_132).map e2_x
theorem ei_132 : e2_mOk 132 2 evd_132 := e2_mOk_of (rfl : e2_MT[132]? = some (⟨"MeadowSigns", "year", "()I"⟩, prog_1_method_11_code, 2, some .int)) (by decide +kernel) (by decide +kernel) ed_132
noncomputable def e2x_135 : List e2_X := (e2_mark [] evd_135).map e2_x
theorem ei_135 : e2_mOk 135 1 evd_135 := e2_mOk_of (rfl : e2_MT[135]? = some (⟨"MeadowSigns", "readings", "()I"⟩, prog_1_method_14_code, 1, some .int)) (by decide +kernel) (by decide +kernel) ed_135
noncomputable def e2x_136 : List e2_X := (e2_mark [] evd_136).map e2_x
theorem ei_136 : e2_mOk 136 2 evd_136 := e2_mOk_of (rfl : e2_MT[136]? = some (⟨"MeadowSigns", "taken", "()I"⟩, prog_1_method_15_code, 2, some .int)) (by decide +kernel) (by decide +kernel) ed_136
noncomputable def e2x_137 : List e2_X := (e2_mark [] evd_137).map e2_x
theorem ei_137 : e2_mOk 137 1 evd_137 := e2_mOk_of (rfl : e2_MT[137]? = some (⟨"MeadowSigns", "weight", "()I"⟩, prog_1_method_16_code, 1, some .int)) (by decide +kernel) (by decide +kernel) ed_137
noncomputable def e2x_138 : List e2_X := (e2_mark [] evd_138).map e2_x
theorem ei_138 : e2_mOk 138 2 evd_138 := e2_mOk_of (rfl : e2_MT[138]? = some (⟨"MeadowSigns", "does", "(I)I"⟩, prog_1_method_17_code, 2, some .int)) (by decide +kernel) (by decide +kernel) ed_138
noncomputable def e2x_139 : List e2_X := (e2_mark [] evd_139).map e2_x
theorem ei_139 : e2_mOk 139 3 evd_139 := e2_mOk_of (rfl : e2_MT[139]? = some (⟨"MeadowSigns", "will", "(II)I"⟩, prog_1_method_18_code, 3, some .int)) (by decide +kernel) (by decide +kernel) ed_139
noncomputable def e2x_140 : List e2_X := (e2_mark [] evd_140).map e2_x
theorem ei_140 : e2_mOk 140 2 evd_140 := e2_mOk_of (rfl : e2_MT[140]? = some (⟨"MeadowSigns", "field", "(I)I"⟩, prog_1_method_19_code, 2, some .int)) (by decide +kernel) (by decide +kernel) ed_140
noncomputable def e2x_141 : List e2_X := (e2_mark [] evd_141).map e2_x
theorem ei_141 : e2_mOk 141 1 evd_141 := e2_mOk_of (rfl : e2_MT[141]? = some (⟨"MeadowSigns", "harm", "()I"⟩, prog_1_method_20_code, 1, some .int)) (by decide +kernel) (by decide +kernel) ed_141
noncomputable def e2x_144 : List e2_X := (e2_mark [] evd_144).map e2_x
theorem ei_144 : e2_mOk 144 2 evd_144 := e2_mOk_of (rfl : e2_MT[144]? = some (⟨"MeadowSigns", "orders", "(I)I"⟩, prog_1_method_23_code, 2, some .int)) (by decide +kernel) (by decide +kernel) ed_144
noncomputable def e2x_145 : List e2_X := (e2_mark [] evd_145).map e2_x
theorem ei_145 : e2_mOk 145 6 evd_145 := e2_mOk_of (rfl : e2_MT[145]? = some (⟨"MeadowSigns", "write", "(III)I"⟩, prog_1_method_24_code, 6, some .int)) (by decide +kernel) (by decide +kernel) ed_145
noncomputable def e2x_146 : List e2_X := (e2_mark [] evd_146).map e2_x
theorem ei_146 : e2_mOk 146 1 evd_146 := e2_mOk_of (rfl : e2_MT[146]? = some (⟨"MeadowSigns", "watch", "()I"⟩, prog_1_method_25_code, 1, some .int)) (by decide +kernel) (by decide +kernel) ed_146
noncomputable def e2x_147 : List e2_X := (e2_mark [] evd_147).map e2_x
theorem ei_147 : e2_mOk 147 3 evd_147 := e2_mOk_of (rfl : e2_MT[147]? = some (⟨"MeadowSigns", "cows", "(II)I"⟩, prog_1_method_26_code, 3, some .int)) (by decide +kernel) (by decide +kernel) ed_147
noncomputable def e2x_148 : List e2_X := (e2_mark [] evd_148).map e2_x
theorem ei_148 : e2_mOk 148 6 evd_148 := e2_mOk_of (rfl : e2_MT[148]? = some (⟨"MeadowSigns", "duel", "(IIII)I"⟩, prog_1_method_27_code, 6, some .int)) (by decide +kernel) (by decide +kernel) ed_148
noncomputable def e2x_150 : List e2_X := (e2_mark [] evd_150).map e2_x
theorem ei_150 : e2_mOk 150 5 evd_150 := e2_mOk_of (rfl : e2_MT[150]? = some (⟨"MeadowSigns", "heard", "(IIIZ)I"⟩, prog_1_method_29_code, 5, some .int)) (by decide +kernel) (by decide +kernel) ed_150
noncomputable def e2x_153 : List e2_X := (e2_mark [] evd_153).map e2_x
theorem ei_153 : e2_mOk 153 2 evd_153 := e2_mOk_of (rfl : e2_MT[153]? = some (⟨"MeadowSigns", "fit", "(I)I"⟩, prog_1_method_32_code, 2, some .int)) (by decide +kernel) (by decide +kernel) ed_153
noncomputable def e2x_154 : List e2_X := (e2_mark [] evd_154).map e2_x
theorem ei_154 : e2_mOk 154 4 evd_154 := e2_mOk_of (rfl : e2_MT[154]? = some (⟨"MeadowSigns", "sure", "(III)I"⟩, prog_1_method_33_code, 4, some .int)) (by decide +kernel) (by decide +kernel) ed_154
noncomputable def e2x_155 : List e2_X := (e2_mark [] evd_155).map e2_x
theorem ei_155 : e2_mOk 155 3 evd_155 := e2_mOk_of (rfl : e2_MT[155]? = some (⟨"MeadowSigns", "ask", "(II)I"⟩, prog_1_method_34_code, 3, some .int)) (by decide +kernel) (by decide +kernel) ed_155
noncomputable def e2x_158 : List e2_X := (e2_mark [] evd_158).map e2_x
theorem ei_158 : e2_mOk 158 2 evd_158 := e2_mOk_of (rfl : e2_MT[158]? = some (⟨"MeadowSigns", "about", "(I)I"⟩, prog_1_method_37_code, 2, some .int)) (by decide +kernel) (by decide +kernel) ed_158
noncomputable def e2x_159 : List e2_X := (e2_mark [] evd_159).map e2_x
theorem ei_159 : e2_mOk 159 2 evd_159 := e2_mOk_of (rfl : e2_MT[159]? = some (⟨"MeadowSigns", "isIn", "(II)Z"⟩, prog_1_method_38_code, 2, some .boolean)) (by decide +kernel) (by decide +kernel) ed_159
theorem ein_159 : e2_inOk (159, 2, e2x_159) := ⟨[], _, _, rfl, rfl, ei_159⟩
noncomputable def e2x_160 : List e2_X := (e2_mark [] evd_160).map e2_x
theorem ei_160 : e2_mOk 160 2 evd_160 := e2_mOk_of (rfl : e2_MT[160]? = some (⟨"MeadowSigns", "within", "(II)I"⟩, prog_1_method_39_code, 2, some .int)) (by decide +kernel) (by decide +kernel) ed_160
theorem ein_160 : e2_inOk (160, 2, e2x_160) := ⟨[], _, _, rfl, rfl, ei_160⟩
noncomputable def e2x_161 : List e2_X := (e2_mark [] evd_161).map e2_x
theorem ei_161 : e2_mOk 161 2 evd_161 := e2_mOk_of (rfl : e2_MT[161]? = some (⟨"MeadowSigns", "isThing", "(I)Z"⟩, prog_1_method_40_code, 2, some .boolean)) (by decide +kernel) (by decide +kernel) ed_161
theorem ein_161 : e2_inOk (161, 2, e2x_161) := ⟨[], _, _, rfl, rfl, ei_161⟩
noncomputable def e2x_162 : List e2_X := (e2_mark [] evd_162).map e2_x
theorem ei_162 : e2_mOk 162 2 evd_162 := e2_mOk_of (rfl : e2_MT[162]? = some (⟨"MeadowSigns", "isSign", "(I)Z"⟩, prog_1_method_41_code, 2, some .boolean)) (by decide +kernel) (by decide +kernel) ed_162
theorem ein_162 : e2_inOk (162, 2, e2x_162) := ⟨[], _, _, rfl, rfl, ei_162⟩
noncomputable def e2x_163 : List e2_X := (e2_mark [] evd_163).map e2_x
theorem ei_163 : e2_mOk 163 2 evd_163 := e2_mOk_of (rfl : e2_MT[163]? = some (⟨"MeadowSigns", "isCell", "(I)Z"⟩, prog_1_method_42_code, 2, some .boolean)) (by decide +kernel) (by decide +kernel) ed_163
theorem ein_163 : e2_inOk (163, 2, e2x_163) := ⟨[], _, _, rfl, rfl, ei_163⟩
noncomputable def e2x_164 : List e2_X := (e2_mark [] evd_164).map e2_x
theorem ei_164 : e2_mOk 164 1 evd_164 := e2_mOk_of (rfl : e2_MT[164]? = some (⟨"MeadowSigns", "openCells", "()I"⟩, prog_1_method_43_code, 1, some .int)) (by decide +kernel) (by decide +kernel) ed_164
theorem ein_164 : e2_inOk (164, 1, e2x_164) := ⟨[], _, _, rfl, rfl, ei_164⟩
noncomputable def e2x_165 : List e2_X := (e2_mark [] evd_165).map e2_x
theorem ei_165 : e2_mOk 165 2 evd_165 := e2_mOk_of (rfl : e2_MT[165]? = some (⟨"MeadowSigns", "isOpen", "(I)Z"⟩, prog_1_method_44_code, 2, some .boolean)) (by decide +kernel) (by decide +kernel) ed_165
theorem ein_165 : e2_inOk (165, 2, e2x_165) := ⟨[], _, _, rfl, rfl, ei_165⟩
noncomputable def e2x_166 : List e2_X := (e2_mark [] evd_166).map e2_x
theorem ei_166 : e2_mOk 166 3 evd_166 := e2_mOk_of (rfl : e2_MT[166]? = some (⟨"MeadowSigns", "readAll", "(LMeadowSigns$State;)I"⟩, prog_1_method_45_code, 3, some .int)) (by decide +kernel) (by decide +kernel) ed_166
noncomputable def e2x_167 : List e2_X := (e2_mark [] evd_167).map e2_x
theorem ei_167 : e2_mOk 167 1 evd_167 := e2_mOk_of (rfl : e2_MT[167]? = some (⟨"MeadowSigns", "takeNow", "()Z"⟩, prog_1_method_46_code, 1, some .boolean)) (by decide +kernel) (by decide +kernel) ed_167
noncomputable def e2x_168 : List e2_X := (e2_mark [] evd_168).map e2_x
theorem ei_168 : e2_mOk 168 5 evd_168 := e2_mOk_of (rfl : e2_MT[168]? = some (⟨"MeadowSigns", "passYear", "(LMeadowSigns$State;)I"⟩, prog_1_method_47_code, 5, some .int)) (by decide +kernel) (by decide +kernel) ed_168
noncomputable def e2x_169 : List e2_X := (e2_mark [] evd_169).map e2_x
theorem ei_169 : e2_mOk 169 3 evd_169 := e2_mOk_of (rfl : e2_MT[169]? = some (⟨"MeadowSigns", "goAhead", "(I)Z"⟩, prog_1_method_48_code, 3, some .boolean)) (by decide +kernel) (by decide +kernel) ed_169
noncomputable def e2x_291 : List e2_X := (e2_mark [] evd_291).map e2_x
theorem ei_291 : e2_mOk 291 1 evd_291 := e2_mOk_of (rfl : e2_MT[291]? = some (⟨"java/lang/Integer", "bitCount", "(I)I"⟩, prog_13_method_49_code, 1, some .int)) (by decide +kernel) (by decide +kernel) ed_291
theorem ein_291 : e2_inOk (291, 1, e2x_291) := ⟨[], _, _, rfl, rfl, ei_291⟩
