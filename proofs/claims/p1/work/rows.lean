section
-- ===== PART A: goes FIRST, ahead of the names: the tables' words, and 'selects' of the private methods out of them =====
/-- a private method of a class that the tables say can be made, by its rows of tables_1 -/
def lw_okq (q : MethodName × Nat) : Prop := (q.1.cls ≠ "java/lang/invoke/MethodHandle" ∧ q.1.cls ≠ "java/lang/invoke/VarHandle") ∧ Cond.instantiable q.1.cls q.2 ∈ tables_1 ∧ Cond.privateMethod q.1 ∈ tables_1 ∧ Cond.instanceMethod q.1 ∈ tables_1
theorem lw_p0 : lw_okq (⟨"MeadowSigns$Tape", "isLetterAt", "(I)Z"⟩, 8) := ⟨⟨by decide +kernel, by decide +kernel⟩, List.mem_of_getElem? (i := 155) (by decide +kernel), List.mem_of_getElem? (i := 511) (by decide +kernel), List.mem_of_getElem? (i := 512) (by decide +kernel)⟩
theorem lw_p1 : lw_okq (⟨"MeadowSigns$Tape", "readWord", "()V"⟩, 8) := ⟨⟨by decide +kernel, by decide +kernel⟩, List.mem_of_getElem? (i := 155) (by decide +kernel), List.mem_of_getElem? (i := 515) (by decide +kernel), List.mem_of_getElem? (i := 516) (by decide +kernel)⟩
theorem lw_p2 : lw_okq (⟨"MeadowSigns$Tape", "kindOfWord", "()I"⟩, 8) := ⟨⟨by decide +kernel, by decide +kernel⟩, List.mem_of_getElem? (i := 155) (by decide +kernel), List.mem_of_getElem? (i := 520) (by decide +kernel), List.mem_of_getElem? (i := 521) (by decide +kernel)⟩
theorem lw_p3 : lw_okq (⟨"MeadowSigns$Tape", "isDigitAt", "(I)Z"⟩, 8) := ⟨⟨by decide +kernel, by decide +kernel⟩, List.mem_of_getElem? (i := 155) (by decide +kernel), List.mem_of_getElem? (i := 573) (by decide +kernel), List.mem_of_getElem? (i := 574) (by decide +kernel)⟩
theorem lw_p4 : lw_okq (⟨"MeadowSigns$Tape", "readNumber", "()V"⟩, 8) := ⟨⟨by decide +kernel, by decide +kernel⟩, List.mem_of_getElem? (i := 155) (by decide +kernel), List.mem_of_getElem? (i := 577) (by decide +kernel), List.mem_of_getElem? (i := 578) (by decide +kernel)⟩
theorem lw_p5 : lw_okq (⟨"MeadowSigns$Tape", "readMark", "()V"⟩, 8) := ⟨⟨by decide +kernel, by decide +kernel⟩, List.mem_of_getElem? (i := 155) (by decide +kernel), List.mem_of_getElem? (i := 581) (by decide +kernel), List.mem_of_getElem? (i := 582) (by decide +kernel)⟩
theorem lw_p6 : lw_okq (⟨"MeadowSigns$Parser", "parseSize", "()Z"⟩, 8) := ⟨⟨by decide +kernel, by decide +kernel⟩, List.mem_of_getElem? (i := 149) (by decide +kernel), List.mem_of_getElem? (i := 586) (by decide +kernel), List.mem_of_getElem? (i := 587) (by decide +kernel)⟩
theorem lw_p7 : lw_okq (⟨"MeadowSigns$Parser", "refuse", "(I)Z"⟩, 8) := ⟨⟨by decide +kernel, by decide +kernel⟩, List.mem_of_getElem? (i := 149) (by decide +kernel), List.mem_of_getElem? (i := 590) (by decide +kernel), List.mem_of_getElem? (i := 591) (by decide +kernel)⟩
theorem lw_p8 : lw_okq (⟨"MeadowSigns$Parser", "refuseAt", "(II)Z"⟩, 8) := ⟨⟨by decide +kernel, by decide +kernel⟩, List.mem_of_getElem? (i := 149) (by decide +kernel), List.mem_of_getElem? (i := 594) (by decide +kernel), List.mem_of_getElem? (i := 595) (by decide +kernel)⟩
theorem lw_p9 : lw_okq (⟨"MeadowSigns$Parser", "passNumber", "(II)Z"⟩, 8) := ⟨⟨by decide +kernel, by decide +kernel⟩, List.mem_of_getElem? (i := 149) (by decide +kernel), List.mem_of_getElem? (i := 599) (by decide +kernel), List.mem_of_getElem? (i := 600) (by decide +kernel)⟩
theorem lw_p10 : lw_okq (⟨"MeadowSigns$Parser", "isNumber", "(II)Z"⟩, 8) := ⟨⟨by decide +kernel, by decide +kernel⟩, List.mem_of_getElem? (i := 149) (by decide +kernel), List.mem_of_getElem? (i := 603) (by decide +kernel), List.mem_of_getElem? (i := 604) (by decide +kernel)⟩
theorem lw_p11 : lw_okq (⟨"MeadowSigns$Parser", "expect", "(I)Z"⟩, 8) := ⟨⟨by decide +kernel, by decide +kernel⟩, List.mem_of_getElem? (i := 149) (by decide +kernel), List.mem_of_getElem? (i := 607) (by decide +kernel), List.mem_of_getElem? (i := 608) (by decide +kernel)⟩
theorem lw_p12 : lw_okq (⟨"MeadowSigns$Parser", "parseThing", "()Z"⟩, 8) := ⟨⟨by decide +kernel, by decide +kernel⟩, List.mem_of_getElem? (i := 149) (by decide +kernel), List.mem_of_getElem? (i := 611) (by decide +kernel), List.mem_of_getElem? (i := 612) (by decide +kernel)⟩
theorem lw_p13 : lw_okq (⟨"MeadowSigns$Parser", "isNewName", "([JI)Z"⟩, 8) := ⟨⟨by decide +kernel, by decide +kernel⟩, List.mem_of_getElem? (i := 149) (by decide +kernel), List.mem_of_getElem? (i := 615) (by decide +kernel), List.mem_of_getElem? (i := 616) (by decide +kernel)⟩
theorem lw_p14 : lw_okq (⟨"MeadowSigns$Parser", "parseSign", "()Z"⟩, 8) := ⟨⟨by decide +kernel, by decide +kernel⟩, List.mem_of_getElem? (i := 149) (by decide +kernel), List.mem_of_getElem? (i := 626) (by decide +kernel), List.mem_of_getElem? (i := 627) (by decide +kernel)⟩
theorem lw_p15 : lw_okq (⟨"MeadowSigns$Parser", "isKnownName", "([JI)Z"⟩, 8) := ⟨⟨by decide +kernel, by decide +kernel⟩, List.mem_of_getElem? (i := 149) (by decide +kernel), List.mem_of_getElem? (i := 641) (by decide +kernel), List.mem_of_getElem? (i := 642) (by decide +kernel)⟩
def lw_privs_1 : List (MethodName × Nat) := [(⟨"MeadowSigns$Tape", "isLetterAt", "(I)Z"⟩, 8), (⟨"MeadowSigns$Tape", "readWord", "()V"⟩, 8), (⟨"MeadowSigns$Tape", "kindOfWord", "()I"⟩, 8), (⟨"MeadowSigns$Tape", "isDigitAt", "(I)Z"⟩, 8), (⟨"MeadowSigns$Tape", "readNumber", "()V"⟩, 8), (⟨"MeadowSigns$Tape", "readMark", "()V"⟩, 8), (⟨"MeadowSigns$Parser", "parseSize", "()Z"⟩, 8), (⟨"MeadowSigns$Parser", "refuse", "(I)Z"⟩, 8), (⟨"MeadowSigns$Parser", "refuseAt", "(II)Z"⟩, 8), (⟨"MeadowSigns$Parser", "passNumber", "(II)Z"⟩, 8), (⟨"MeadowSigns$Parser", "isNumber", "(II)Z"⟩, 8), (⟨"MeadowSigns$Parser", "expect", "(I)Z"⟩, 8), (⟨"MeadowSigns$Parser", "parseThing", "()Z"⟩, 8), (⟨"MeadowSigns$Parser", "isNewName", "([JI)Z"⟩, 8), (⟨"MeadowSigns$Parser", "parseSign", "()Z"⟩, 8), (⟨"MeadowSigns$Parser", "isKnownName", "([JI)Z"⟩, 8)]
theorem lw_r1 : ∀ q ∈ lw_privs_1, lw_okq q := List.forall_mem_cons.mpr ⟨lw_p0, List.forall_mem_cons.mpr ⟨lw_p1, List.forall_mem_cons.mpr ⟨lw_p2, List.forall_mem_cons.mpr ⟨lw_p3, List.forall_mem_cons.mpr ⟨lw_p4, List.forall_mem_cons.mpr ⟨lw_p5, List.forall_mem_cons.mpr ⟨lw_p6, List.forall_mem_cons.mpr ⟨lw_p7, List.forall_mem_cons.mpr ⟨lw_p8, List.forall_mem_cons.mpr ⟨lw_p9, List.forall_mem_cons.mpr ⟨lw_p10, List.forall_mem_cons.mpr ⟨lw_p11, List.forall_mem_cons.mpr ⟨lw_p12, List.forall_mem_cons.mpr ⟨lw_p13, List.forall_mem_cons.mpr ⟨lw_p14, List.forall_mem_cons.mpr ⟨lw_p15, fun _ h => absurd h List.not_mem_nil⟩⟩⟩⟩⟩⟩⟩⟩⟩⟩⟩⟩⟩⟩⟩⟩
theorem lw_p16 : lw_okq (⟨"MeadowSigns$Parser", "passValue", "()Z"⟩, 8) := ⟨⟨by decide +kernel, by decide +kernel⟩, List.mem_of_getElem? (i := 149) (by decide +kernel), List.mem_of_getElem? (i := 645) (by decide +kernel), List.mem_of_getElem? (i := 646) (by decide +kernel)⟩
theorem lw_p17 : lw_okq (⟨"MeadowSigns$Parser", "parseNever", "()Z"⟩, 8) := ⟨⟨by decide +kernel, by decide +kernel⟩, List.mem_of_getElem? (i := 149) (by decide +kernel), List.mem_of_getElem? (i := 653) (by decide +kernel), List.mem_of_getElem? (i := 654) (by decide +kernel)⟩
theorem lw_p18 : lw_okq (⟨"MeadowSigns$Parser", "parseBarn", "()Z"⟩, 8) := ⟨⟨by decide +kernel, by decide +kernel⟩, List.mem_of_getElem? (i := 149) (by decide +kernel), List.mem_of_getElem? (i := 662) (by decide +kernel), List.mem_of_getElem? (i := 663) (by decide +kernel)⟩
theorem lw_p19 : lw_okq (⟨"MeadowSigns$Parser", "parseFormula", "(LMeadowSigns$Formula;)Z"⟩, 8) := ⟨⟨by decide +kernel, by decide +kernel⟩, List.mem_of_getElem? (i := 149) (by decide +kernel), List.mem_of_getElem? (i := 672) (by decide +kernel), List.mem_of_getElem? (i := 673) (by decide +kernel)⟩
theorem lw_p20 : lw_okq (⟨"MeadowSigns$Parser", "parseLevel", "(LMeadowSigns$Formula;II)Z"⟩, 8) := ⟨⟨by decide +kernel, by decide +kernel⟩, List.mem_of_getElem? (i := 149) (by decide +kernel), List.mem_of_getElem? (i := 680) (by decide +kernel), List.mem_of_getElem? (i := 681) (by decide +kernel)⟩
theorem lw_p21 : lw_okq (⟨"MeadowSigns$Parser", "parseUnit", "(LMeadowSigns$Formula;I)Z"⟩, 8) := ⟨⟨by decide +kernel, by decide +kernel⟩, List.mem_of_getElem? (i := 149) (by decide +kernel), List.mem_of_getElem? (i := 684) (by decide +kernel), List.mem_of_getElem? (i := 685) (by decide +kernel)⟩
theorem lw_p22 : lw_okq (⟨"MeadowSigns$Formula", "add", "(I)V"⟩, 4) := ⟨⟨by decide +kernel, by decide +kernel⟩, List.mem_of_getElem? (i := 34) (by decide +kernel), List.mem_of_getElem? (i := 692) (by decide +kernel), List.mem_of_getElem? (i := 693) (by decide +kernel)⟩
theorem lw_p23 : lw_okq (⟨"MeadowSigns$Parser", "parseNot", "(LMeadowSigns$Formula;I)Z"⟩, 8) := ⟨⟨by decide +kernel, by decide +kernel⟩, List.mem_of_getElem? (i := 149) (by decide +kernel), List.mem_of_getElem? (i := 700) (by decide +kernel), List.mem_of_getElem? (i := 701) (by decide +kernel)⟩
theorem lw_p24 : lw_okq (⟨"MeadowSigns$Parser", "parseDraw", "()Z"⟩, 8) := ⟨⟨by decide +kernel, by decide +kernel⟩, List.mem_of_getElem? (i := 149) (by decide +kernel), List.mem_of_getElem? (i := 707) (by decide +kernel), List.mem_of_getElem? (i := 708) (by decide +kernel)⟩
theorem lw_p25 : lw_okq (⟨"MeadowSigns", "isThing", "(I)Z"⟩, 9) := ⟨⟨by decide +kernel, by decide +kernel⟩, List.mem_of_getElem? (i := 20) (by decide +kernel), List.mem_of_getElem? (i := 734) (by decide +kernel), List.mem_of_getElem? (i := 735) (by decide +kernel)⟩
theorem lw_p26 : lw_okq (⟨"MeadowSigns", "isSign", "(I)Z"⟩, 9) := ⟨⟨by decide +kernel, by decide +kernel⟩, List.mem_of_getElem? (i := 20) (by decide +kernel), List.mem_of_getElem? (i := 742) (by decide +kernel), List.mem_of_getElem? (i := 743) (by decide +kernel)⟩
theorem lw_p27 : lw_okq (⟨"MeadowSigns", "takeNow", "()Z"⟩, 9) := ⟨⟨by decide +kernel, by decide +kernel⟩, List.mem_of_getElem? (i := 20) (by decide +kernel), List.mem_of_getElem? (i := 746) (by decide +kernel), List.mem_of_getElem? (i := 747) (by decide +kernel)⟩
theorem lw_p28 : lw_okq (⟨"MeadowSigns", "readAll", "(LMeadowSigns$State;)I"⟩, 9) := ⟨⟨by decide +kernel, by decide +kernel⟩, List.mem_of_getElem? (i := 20) (by decide +kernel), List.mem_of_getElem? (i := 750) (by decide +kernel), List.mem_of_getElem? (i := 751) (by decide +kernel)⟩
theorem lw_p29 : lw_okq (⟨"MeadowSigns$Reader", "weighEverywhere", "(II)V"⟩, 15) := ⟨⟨by decide +kernel, by decide +kernel⟩, List.mem_of_getElem? (i := 281) (by decide +kernel), List.mem_of_getElem? (i := 758) (by decide +kernel), List.mem_of_getElem? (i := 759) (by decide +kernel)⟩
theorem lw_p30 : lw_okq (⟨"MeadowSigns$Reader", "settle", "(I)V"⟩, 15) := ⟨⟨by decide +kernel, by decide +kernel⟩, List.mem_of_getElem? (i := 281) (by decide +kernel), List.mem_of_getElem? (i := 784) (by decide +kernel), List.mem_of_getElem? (i := 785) (by decide +kernel)⟩
theorem lw_p31 : lw_okq (⟨"MeadowSigns$Reader", "goesOn", "(II)Z"⟩, 15) := ⟨⟨by decide +kernel, by decide +kernel⟩, List.mem_of_getElem? (i := 281) (by decide +kernel), List.mem_of_getElem? (i := 789) (by decide +kernel), List.mem_of_getElem? (i := 790) (by decide +kernel)⟩
def lw_privs_2 : List (MethodName × Nat) := [(⟨"MeadowSigns$Parser", "passValue", "()Z"⟩, 8), (⟨"MeadowSigns$Parser", "parseNever", "()Z"⟩, 8), (⟨"MeadowSigns$Parser", "parseBarn", "()Z"⟩, 8), (⟨"MeadowSigns$Parser", "parseFormula", "(LMeadowSigns$Formula;)Z"⟩, 8), (⟨"MeadowSigns$Parser", "parseLevel", "(LMeadowSigns$Formula;II)Z"⟩, 8), (⟨"MeadowSigns$Parser", "parseUnit", "(LMeadowSigns$Formula;I)Z"⟩, 8), (⟨"MeadowSigns$Formula", "add", "(I)V"⟩, 4), (⟨"MeadowSigns$Parser", "parseNot", "(LMeadowSigns$Formula;I)Z"⟩, 8), (⟨"MeadowSigns$Parser", "parseDraw", "()Z"⟩, 8), (⟨"MeadowSigns", "isThing", "(I)Z"⟩, 9), (⟨"MeadowSigns", "isSign", "(I)Z"⟩, 9), (⟨"MeadowSigns", "takeNow", "()Z"⟩, 9), (⟨"MeadowSigns", "readAll", "(LMeadowSigns$State;)I"⟩, 9), (⟨"MeadowSigns$Reader", "weighEverywhere", "(II)V"⟩, 15), (⟨"MeadowSigns$Reader", "settle", "(I)V"⟩, 15), (⟨"MeadowSigns$Reader", "goesOn", "(II)Z"⟩, 15)]
theorem lw_r2 : ∀ q ∈ lw_privs_2, lw_okq q := List.forall_mem_cons.mpr ⟨lw_p16, List.forall_mem_cons.mpr ⟨lw_p17, List.forall_mem_cons.mpr ⟨lw_p18, List.forall_mem_cons.mpr ⟨lw_p19, List.forall_mem_cons.mpr ⟨lw_p20, List.forall_mem_cons.mpr ⟨lw_p21, List.forall_mem_cons.mpr ⟨lw_p22, List.forall_mem_cons.mpr ⟨lw_p23, List.forall_mem_cons.mpr ⟨lw_p24, List.forall_mem_cons.mpr ⟨lw_p25, List.forall_mem_cons.mpr ⟨lw_p26, List.forall_mem_cons.mpr ⟨lw_p27, List.forall_mem_cons.mpr ⟨lw_p28, List.forall_mem_cons.mpr ⟨lw_p29, List.forall_mem_cons.mpr ⟨lw_p30, List.forall_mem_cons.mpr ⟨lw_p31, fun _ h => absurd h List.not_mem_nil⟩⟩⟩⟩⟩⟩⟩⟩⟩⟩⟩⟩⟩⟩⟩⟩
theorem lw_p32 : lw_okq (⟨"MeadowSigns$Reader", "answerAt", "(II)I"⟩, 15) := ⟨⟨by decide +kernel, by decide +kernel⟩, List.mem_of_getElem? (i := 281) (by decide +kernel), List.mem_of_getElem? (i := 793) (by decide +kernel), List.mem_of_getElem? (i := 794) (by decide +kernel)⟩
theorem lw_p33 : lw_okq (⟨"MeadowSigns$Reader", "choose", "(III)V"⟩, 15) := ⟨⟨by decide +kernel, by decide +kernel⟩, List.mem_of_getElem? (i := 281) (by decide +kernel), List.mem_of_getElem? (i := 797) (by decide +kernel), List.mem_of_getElem? (i := 798) (by decide +kernel)⟩
theorem lw_p34 : lw_okq (⟨"MeadowSigns", "isCell", "(I)Z"⟩, 9) := ⟨⟨by decide +kernel, by decide +kernel⟩, List.mem_of_getElem? (i := 20) (by decide +kernel), List.mem_of_getElem? (i := 815) (by decide +kernel), List.mem_of_getElem? (i := 816) (by decide +kernel)⟩
theorem lw_p35 : lw_okq (⟨"MeadowSigns$History", "slot", "()I"⟩, 6) := ⟨⟨by decide +kernel, by decide +kernel⟩, List.mem_of_getElem? (i := 254) (by decide +kernel), List.mem_of_getElem? (i := 836) (by decide +kernel), List.mem_of_getElem? (i := 837) (by decide +kernel)⟩
theorem lw_p36 : lw_okq (⟨"MeadowSigns", "passYear", "(LMeadowSigns$State;)I"⟩, 9) := ⟨⟨by decide +kernel, by decide +kernel⟩, List.mem_of_getElem? (i := 20) (by decide +kernel), List.mem_of_getElem? (i := 849) (by decide +kernel), List.mem_of_getElem? (i := 850) (by decide +kernel)⟩
theorem lw_p37 : lw_okq (⟨"MeadowSigns", "goAhead", "(I)Z"⟩, 9) := ⟨⟨by decide +kernel, by decide +kernel⟩, List.mem_of_getElem? (i := 20) (by decide +kernel), List.mem_of_getElem? (i := 917) (by decide +kernel), List.mem_of_getElem? (i := 918) (by decide +kernel)⟩
theorem lw_p38 : lw_okq (⟨"MeadowSigns$Planner", "changeFrom", "(III)Z"⟩, 14) := ⟨⟨by decide +kernel, by decide +kernel⟩, List.mem_of_getElem? (i := 338) (by decide +kernel), List.mem_of_getElem? (i := 954) (by decide +kernel), List.mem_of_getElem? (i := 955) (by decide +kernel)⟩
theorem lw_p39 : lw_okq (⟨"MeadowSigns$Planner", "meetsGoal", "(I)Z"⟩, 14) := ⟨⟨by decide +kernel, by decide +kernel⟩, List.mem_of_getElem? (i := 338) (by decide +kernel), List.mem_of_getElem? (i := 958) (by decide +kernel), List.mem_of_getElem? (i := 959) (by decide +kernel)⟩
theorem lw_p40 : lw_okq (⟨"MeadowSigns$Planner", "hasWantedSigns", "()Z"⟩, 14) := ⟨⟨by decide +kernel, by decide +kernel⟩, List.mem_of_getElem? (i := 338) (by decide +kernel), List.mem_of_getElem? (i := 965) (by decide +kernel), List.mem_of_getElem? (i := 966) (by decide +kernel)⟩
theorem lw_p41 : lw_okq (⟨"MeadowSigns", "isOpen", "(I)Z"⟩, 9) := ⟨⟨by decide +kernel, by decide +kernel⟩, List.mem_of_getElem? (i := 20) (by decide +kernel), List.mem_of_getElem? (i := 983) (by decide +kernel), List.mem_of_getElem? (i := 984) (by decide +kernel)⟩
theorem lw_p42 : lw_okq (⟨"MeadowSigns", "openCells", "()I"⟩, 9) := ⟨⟨by decide +kernel, by decide +kernel⟩, List.mem_of_getElem? (i := 20) (by decide +kernel), List.mem_of_getElem? (i := 987) (by decide +kernel), List.mem_of_getElem? (i := 988) (by decide +kernel)⟩
theorem lw_p43 : lw_okq (⟨"MeadowSigns$Planner", "listMembers", "(I)I"⟩, 14) := ⟨⟨by decide +kernel, by decide +kernel⟩, List.mem_of_getElem? (i := 338) (by decide +kernel), List.mem_of_getElem? (i := 995) (by decide +kernel), List.mem_of_getElem? (i := 996) (by decide +kernel)⟩
theorem lw_p44 : lw_okq (⟨"MeadowSigns$Planner", "cellsOfPart", "(II)I"⟩, 14) := ⟨⟨by decide +kernel, by decide +kernel⟩, List.mem_of_getElem? (i := 338) (by decide +kernel), List.mem_of_getElem? (i := 999) (by decide +kernel), List.mem_of_getElem? (i := 1000) (by decide +kernel)⟩
theorem lw_p45 : lw_okq (⟨"MeadowSigns$Planner", "harms", "(I)Z"⟩, 14) := ⟨⟨by decide +kernel, by decide +kernel⟩, List.mem_of_getElem? (i := 338) (by decide +kernel), List.mem_of_getElem? (i := 1003) (by decide +kernel), List.mem_of_getElem? (i := 1004) (by decide +kernel)⟩
theorem lw_p46 : lw_okq (⟨"MeadowSigns$Planner", "waysOn", "(II)I"⟩, 14) := ⟨⟨by decide +kernel, by decide +kernel⟩, List.mem_of_getElem? (i := 338) (by decide +kernel), List.mem_of_getElem? (i := 1008) (by decide +kernel), List.mem_of_getElem? (i := 1009) (by decide +kernel)⟩
theorem lw_p47 : lw_okq (⟨"MeadowSigns$Planner", "layFirstOrder", "(I)V"⟩, 14) := ⟨⟨by decide +kernel, by decide +kernel⟩, List.mem_of_getElem? (i := 338) (by decide +kernel), List.mem_of_getElem? (i := 1012) (by decide +kernel), List.mem_of_getElem? (i := 1013) (by decide +kernel)⟩
def lw_privs_3 : List (MethodName × Nat) := [(⟨"MeadowSigns$Reader", "answerAt", "(II)I"⟩, 15), (⟨"MeadowSigns$Reader", "choose", "(III)V"⟩, 15), (⟨"MeadowSigns", "isCell", "(I)Z"⟩, 9), (⟨"MeadowSigns$History", "slot", "()I"⟩, 6), (⟨"MeadowSigns", "passYear", "(LMeadowSigns$State;)I"⟩, 9), (⟨"MeadowSigns", "goAhead", "(I)Z"⟩, 9), (⟨"MeadowSigns$Planner", "changeFrom", "(III)Z"⟩, 14), (⟨"MeadowSigns$Planner", "meetsGoal", "(I)Z"⟩, 14), (⟨"MeadowSigns$Planner", "hasWantedSigns", "()Z"⟩, 14), (⟨"MeadowSigns", "isOpen", "(I)Z"⟩, 9), (⟨"MeadowSigns", "openCells", "()I"⟩, 9), (⟨"MeadowSigns$Planner", "listMembers", "(I)I"⟩, 14), (⟨"MeadowSigns$Planner", "cellsOfPart", "(II)I"⟩, 14), (⟨"MeadowSigns$Planner", "harms", "(I)Z"⟩, 14), (⟨"MeadowSigns$Planner", "waysOn", "(II)I"⟩, 14), (⟨"MeadowSigns$Planner", "layFirstOrder", "(I)V"⟩, 14)]
theorem lw_r3 : ∀ q ∈ lw_privs_3, lw_okq q := List.forall_mem_cons.mpr ⟨lw_p32, List.forall_mem_cons.mpr ⟨lw_p33, List.forall_mem_cons.mpr ⟨lw_p34, List.forall_mem_cons.mpr ⟨lw_p35, List.forall_mem_cons.mpr ⟨lw_p36, List.forall_mem_cons.mpr ⟨lw_p37, List.forall_mem_cons.mpr ⟨lw_p38, List.forall_mem_cons.mpr ⟨lw_p39, List.forall_mem_cons.mpr ⟨lw_p40, List.forall_mem_cons.mpr ⟨lw_p41, List.forall_mem_cons.mpr ⟨lw_p42, List.forall_mem_cons.mpr ⟨lw_p43, List.forall_mem_cons.mpr ⟨lw_p44, List.forall_mem_cons.mpr ⟨lw_p45, List.forall_mem_cons.mpr ⟨lw_p46, List.forall_mem_cons.mpr ⟨lw_p47, fun _ h => absurd h List.not_mem_nil⟩⟩⟩⟩⟩⟩⟩⟩⟩⟩⟩⟩⟩⟩⟩⟩
theorem lw_p48 : lw_okq (⟨"MeadowSigns$Planner", "placeFrom", "(III)Z"⟩, 14) := ⟨⟨by decide +kernel, by decide +kernel⟩, List.mem_of_getElem? (i := 338) (by decide +kernel), List.mem_of_getElem? (i := 1029) (by decide +kernel), List.mem_of_getElem? (i := 1030) (by decide +kernel)⟩
theorem lw_p49 : lw_okq (⟨"MeadowSigns$Planner", "gainBy", "(II)I"⟩, 14) := ⟨⟨by decide +kernel, by decide +kernel⟩, List.mem_of_getElem? (i := 338) (by decide +kernel), List.mem_of_getElem? (i := 1049) (by decide +kernel), List.mem_of_getElem? (i := 1050) (by decide +kernel)⟩
theorem lw_p50 : lw_okq (⟨"MeadowSigns$Planner", "worstReply", "(III)I"⟩, 14) := ⟨⟨by decide +kernel, by decide +kernel⟩, List.mem_of_getElem? (i := 338) (by decide +kernel), List.mem_of_getElem? (i := 1061) (by decide +kernel), List.mem_of_getElem? (i := 1062) (by decide +kernel)⟩
theorem lw_p51 : lw_okq (⟨"MeadowSigns$Hearsay", "isOne", "(I)Z"⟩, 8) := ⟨⟨by decide +kernel, by decide +kernel⟩, List.mem_of_getElem? (i := 390) (by decide +kernel), List.mem_of_getElem? (i := 1081) (by decide +kernel), List.mem_of_getElem? (i := 1082) (by decide +kernel)⟩
theorem lw_p52 : lw_okq (⟨"MeadowSigns$Hearsay", "pairOf", "(II)I"⟩, 8) := ⟨⟨by decide +kernel, by decide +kernel⟩, List.mem_of_getElem? (i := 390) (by decide +kernel), List.mem_of_getElem? (i := 1085) (by decide +kernel), List.mem_of_getElem? (i := 1086) (by decide +kernel)⟩
theorem lw_p53 : lw_okq (⟨"MeadowSigns$Hearsay", "counts", "(II)Z"⟩, 8) := ⟨⟨by decide +kernel, by decide +kernel⟩, List.mem_of_getElem? (i := 390) (by decide +kernel), List.mem_of_getElem? (i := 1114) (by decide +kernel), List.mem_of_getElem? (i := 1115) (by decide +kernel)⟩
theorem lw_p54 : lw_okq (⟨"MeadowSigns$Hearsay", "setAgainst", "(I)V"⟩, 8) := ⟨⟨by decide +kernel, by decide +kernel⟩, List.mem_of_getElem? (i := 390) (by decide +kernel), List.mem_of_getElem? (i := 1119) (by decide +kernel), List.mem_of_getElem? (i := 1120) (by decide +kernel)⟩
theorem lw_p55 : lw_okq (⟨"MeadowSigns$Hearsay", "choicesFrom", "(II)I"⟩, 8) := ⟨⟨by decide +kernel, by decide +kernel⟩, List.mem_of_getElem? (i := 390) (by decide +kernel), List.mem_of_getElem? (i := 1124) (by decide +kernel), List.mem_of_getElem? (i := 1125) (by decide +kernel)⟩
theorem lw_p56 : lw_okq (⟨"MeadowSignsModel", "clearBank", "()V"⟩, 80) := ⟨⟨by decide +kernel, by decide +kernel⟩, List.mem_of_getElem? (i := 1167) (by decide +kernel), List.mem_of_getElem? (i := 1173) (by decide +kernel), List.mem_of_getElem? (i := 1174) (by decide +kernel)⟩
theorem lw_p57 : lw_okq (⟨"MeadowSignsModel", "startAnew", "()V"⟩, 80) := ⟨⟨by decide +kernel, by decide +kernel⟩, List.mem_of_getElem? (i := 1167) (by decide +kernel), List.mem_of_getElem? (i := 1177) (by decide +kernel), List.mem_of_getElem? (i := 1178) (by decide +kernel)⟩
theorem lw_p58 : lw_okq (⟨"MeadowSignsModel", "goOn", "()V"⟩, 80) := ⟨⟨by decide +kernel, by decide +kernel⟩, List.mem_of_getElem? (i := 1167) (by decide +kernel), List.mem_of_getElem? (i := 1426) (by decide +kernel), List.mem_of_getElem? (i := 1427) (by decide +kernel)⟩
theorem lw_p59 : lw_okq (⟨"MeadowSignsModel", "sign", "(I)I"⟩, 80) := ⟨⟨by decide +kernel, by decide +kernel⟩, List.mem_of_getElem? (i := 1167) (by decide +kernel), List.mem_of_getElem? (i := 1430) (by decide +kernel), List.mem_of_getElem? (i := 1431) (by decide +kernel)⟩
theorem lw_p60 : lw_okq (⟨"MeadowSignsModel", "isGood", "()Z"⟩, 80) := ⟨⟨by decide +kernel, by decide +kernel⟩, List.mem_of_getElem? (i := 1167) (by decide +kernel), List.mem_of_getElem? (i := 1465) (by decide +kernel), List.mem_of_getElem? (i := 1466) (by decide +kernel)⟩
theorem lw_p61 : lw_okq (⟨"MeadowSignsModel", "readLine", "()V"⟩, 80) := ⟨⟨by decide +kernel, by decide +kernel⟩, List.mem_of_getElem? (i := 1167) (by decide +kernel), List.mem_of_getElem? (i := 1469) (by decide +kernel), List.mem_of_getElem? (i := 1470) (by decide +kernel)⟩
theorem lw_p62 : lw_okq (⟨"MeadowSignsModel", "isFull", "()Z"⟩, 80) := ⟨⟨by decide +kernel, by decide +kernel⟩, List.mem_of_getElem? (i := 1167) (by decide +kernel), List.mem_of_getElem? (i := 1473) (by decide +kernel), List.mem_of_getElem? (i := 1474) (by decide +kernel)⟩
theorem lw_p63 : lw_okq (⟨"MeadowSignsModel", "isWord", "(J)Z"⟩, 80) := ⟨⟨by decide +kernel, by decide +kernel⟩, List.mem_of_getElem? (i := 1167) (by decide +kernel), List.mem_of_getElem? (i := 1477) (by decide +kernel), List.mem_of_getElem? (i := 1478) (by decide +kernel)⟩
def lw_privs_4 : List (MethodName × Nat) := [(⟨"MeadowSigns$Planner", "placeFrom", "(III)Z"⟩, 14), (⟨"MeadowSigns$Planner", "gainBy", "(II)I"⟩, 14), (⟨"MeadowSigns$Planner", "worstReply", "(III)I"⟩, 14), (⟨"MeadowSigns$Hearsay", "isOne", "(I)Z"⟩, 8), (⟨"MeadowSigns$Hearsay", "pairOf", "(II)I"⟩, 8), (⟨"MeadowSigns$Hearsay", "counts", "(II)Z"⟩, 8), (⟨"MeadowSigns$Hearsay", "setAgainst", "(I)V"⟩, 8), (⟨"MeadowSigns$Hearsay", "choicesFrom", "(II)I"⟩, 8), (⟨"MeadowSignsModel", "clearBank", "()V"⟩, 80), (⟨"MeadowSignsModel", "startAnew", "()V"⟩, 80), (⟨"MeadowSignsModel", "goOn", "()V"⟩, 80), (⟨"MeadowSignsModel", "sign", "(I)I"⟩, 80), (⟨"MeadowSignsModel", "isGood", "()Z"⟩, 80), (⟨"MeadowSignsModel", "readLine", "()V"⟩, 80), (⟨"MeadowSignsModel", "isFull", "()Z"⟩, 80), (⟨"MeadowSignsModel", "isWord", "(J)Z"⟩, 80)]
theorem lw_r4 : ∀ q ∈ lw_privs_4, lw_okq q := List.forall_mem_cons.mpr ⟨lw_p48, List.forall_mem_cons.mpr ⟨lw_p49, List.forall_mem_cons.mpr ⟨lw_p50, List.forall_mem_cons.mpr ⟨lw_p51, List.forall_mem_cons.mpr ⟨lw_p52, List.forall_mem_cons.mpr ⟨lw_p53, List.forall_mem_cons.mpr ⟨lw_p54, List.forall_mem_cons.mpr ⟨lw_p55, List.forall_mem_cons.mpr ⟨lw_p56, List.forall_mem_cons.mpr ⟨lw_p57, List.forall_mem_cons.mpr ⟨lw_p58, List.forall_mem_cons.mpr ⟨lw_p59, List.forall_mem_cons.mpr ⟨lw_p60, List.forall_mem_cons.mpr ⟨lw_p61, List.forall_mem_cons.mpr ⟨lw_p62, List.forall_mem_cons.mpr ⟨lw_p63, fun _ h => absurd h List.not_mem_nil⟩⟩⟩⟩⟩⟩⟩⟩⟩⟩⟩⟩⟩⟩⟩⟩
theorem lw_p64 : lw_okq (⟨"MeadowSignsModel", "misplaced", "()V"⟩, 80) := ⟨⟨by decide +kernel, by decide +kernel⟩, List.mem_of_getElem? (i := 1167) (by decide +kernel), List.mem_of_getElem? (i := 1481) (by decide +kernel), List.mem_of_getElem? (i := 1482) (by decide +kernel)⟩
theorem lw_p65 : lw_okq (⟨"MeadowSignsModel", "fails", "(II)V"⟩, 80) := ⟨⟨by decide +kernel, by decide +kernel⟩, List.mem_of_getElem? (i := 1167) (by decide +kernel), List.mem_of_getElem? (i := 1485) (by decide +kernel), List.mem_of_getElem? (i := 1486) (by decide +kernel)⟩
theorem lw_p66 : lw_okq (⟨"MeadowSignsModel", "numeral", "(II)I"⟩, 80) := ⟨⟨by decide +kernel, by decide +kernel⟩, List.mem_of_getElem? (i := 1167) (by decide +kernel), List.mem_of_getElem? (i := 1489) (by decide +kernel), List.mem_of_getElem? (i := 1490) (by decide +kernel)⟩
theorem lw_p67 : lw_okq (⟨"MeadowSignsModel", "readThing", "()V"⟩, 80) := ⟨⟨by decide +kernel, by decide +kernel⟩, List.mem_of_getElem? (i := 1167) (by decide +kernel), List.mem_of_getElem? (i := 1493) (by decide +kernel), List.mem_of_getElem? (i := 1494) (by decide +kernel)⟩
theorem lw_p68 : lw_okq (⟨"MeadowSignsModel", "thingHere", "()I"⟩, 80) := ⟨⟨by decide +kernel, by decide +kernel⟩, List.mem_of_getElem? (i := 1167) (by decide +kernel), List.mem_of_getElem? (i := 1497) (by decide +kernel), List.mem_of_getElem? (i := 1498) (by decide +kernel)⟩
theorem lw_p69 : lw_okq (⟨"MeadowSignsModel", "here", "([JII)I"⟩, 80) := ⟨⟨by decide +kernel, by decide +kernel⟩, List.mem_of_getElem? (i := 1167) (by decide +kernel), List.mem_of_getElem? (i := 1501) (by decide +kernel), List.mem_of_getElem? (i := 1502) (by decide +kernel)⟩
theorem lw_p70 : lw_okq (⟨"MeadowSignsModel", "fresh", "(I)J"⟩, 80) := ⟨⟨by decide +kernel, by decide +kernel⟩, List.mem_of_getElem? (i := 1167) (by decide +kernel), List.mem_of_getElem? (i := 1505) (by decide +kernel), List.mem_of_getElem? (i := 1506) (by decide +kernel)⟩
theorem lw_p71 : lw_okq (⟨"MeadowSignsModel", "after", "(JII)I"⟩, 80) := ⟨⟨by decide +kernel, by decide +kernel⟩, List.mem_of_getElem? (i := 1167) (by decide +kernel), List.mem_of_getElem? (i := 1509) (by decide +kernel), List.mem_of_getElem? (i := 1510) (by decide +kernel)⟩
theorem lw_p72 : lw_okq (⟨"MeadowSignsModel", "must", "(Z)V"⟩, 80) := ⟨⟨by decide +kernel, by decide +kernel⟩, List.mem_of_getElem? (i := 1167) (by decide +kernel), List.mem_of_getElem? (i := 1513) (by decide +kernel), List.mem_of_getElem? (i := 1514) (by decide +kernel)⟩
theorem lw_p73 : lw_okq (⟨"MeadowSignsModel", "readGlyph", "()V"⟩, 80) := ⟨⟨by decide +kernel, by decide +kernel⟩, List.mem_of_getElem? (i := 1167) (by decide +kernel), List.mem_of_getElem? (i := 1517) (by decide +kernel), List.mem_of_getElem? (i := 1518) (by decide +kernel)⟩
theorem lw_p74 : lw_okq (⟨"MeadowSignsModel", "glyphHere", "()I"⟩, 80) := ⟨⟨by decide +kernel, by decide +kernel⟩, List.mem_of_getElem? (i := 1167) (by decide +kernel), List.mem_of_getElem? (i := 1521) (by decide +kernel), List.mem_of_getElem? (i := 1522) (by decide +kernel)⟩
theorem lw_p75 : lw_okq (⟨"MeadowSignsModel", "readShape", "(I)V"⟩, 80) := ⟨⟨by decide +kernel, by decide +kernel⟩, List.mem_of_getElem? (i := 1167) (by decide +kernel), List.mem_of_getElem? (i := 1525) (by decide +kernel), List.mem_of_getElem? (i := 1526) (by decide +kernel)⟩
theorem lw_p76 : lw_okq (⟨"MeadowSignsModel", "isShape", "()Z"⟩, 80) := ⟨⟨by decide +kernel, by decide +kernel⟩, List.mem_of_getElem? (i := 1167) (by decide +kernel), List.mem_of_getElem? (i := 1529) (by decide +kernel), List.mem_of_getElem? (i := 1530) (by decide +kernel)⟩
theorem lw_p77 : lw_okq (⟨"MeadowSignsModel", "known", "(I)I"⟩, 80) := ⟨⟨by decide +kernel, by decide +kernel⟩, List.mem_of_getElem? (i := 1167) (by decide +kernel), List.mem_of_getElem? (i := 1533) (by decide +kernel), List.mem_of_getElem? (i := 1534) (by decide +kernel)⟩
theorem lw_p78 : lw_okq (⟨"MeadowSignsModel", "signed", "()I"⟩, 80) := ⟨⟨by decide +kernel, by decide +kernel⟩, List.mem_of_getElem? (i := 1167) (by decide +kernel), List.mem_of_getElem? (i := 1537) (by decide +kernel), List.mem_of_getElem? (i := 1538) (by decide +kernel)⟩
theorem lw_p79 : lw_okq (⟨"MeadowSignsModel", "isSignHere", "(I)Z"⟩, 80) := ⟨⟨by decide +kernel, by decide +kernel⟩, List.mem_of_getElem? (i := 1167) (by decide +kernel), List.mem_of_getElem? (i := 1541) (by decide +kernel), List.mem_of_getElem? (i := 1542) (by decide +kernel)⟩
def lw_privs_5 : List (MethodName × Nat) := [(⟨"MeadowSignsModel", "misplaced", "()V"⟩, 80), (⟨"MeadowSignsModel", "fails", "(II)V"⟩, 80), (⟨"MeadowSignsModel", "numeral", "(II)I"⟩, 80), (⟨"MeadowSignsModel", "readThing", "()V"⟩, 80), (⟨"MeadowSignsModel", "thingHere", "()I"⟩, 80), (⟨"MeadowSignsModel", "here", "([JII)I"⟩, 80), (⟨"MeadowSignsModel", "fresh", "(I)J"⟩, 80), (⟨"MeadowSignsModel", "after", "(JII)I"⟩, 80), (⟨"MeadowSignsModel", "must", "(Z)V"⟩, 80), (⟨"MeadowSignsModel", "readGlyph", "()V"⟩, 80), (⟨"MeadowSignsModel", "glyphHere", "()I"⟩, 80), (⟨"MeadowSignsModel", "readShape", "(I)V"⟩, 80), (⟨"MeadowSignsModel", "isShape", "()Z"⟩, 80), (⟨"MeadowSignsModel", "known", "(I)I"⟩, 80), (⟨"MeadowSignsModel", "signed", "()I"⟩, 80), (⟨"MeadowSignsModel", "isSignHere", "(I)Z"⟩, 80)]
theorem lw_r5 : ∀ q ∈ lw_privs_5, lw_okq q := List.forall_mem_cons.mpr ⟨lw_p64, List.forall_mem_cons.mpr ⟨lw_p65, List.forall_mem_cons.mpr ⟨lw_p66, List.forall_mem_cons.mpr ⟨lw_p67, List.forall_mem_cons.mpr ⟨lw_p68, List.forall_mem_cons.mpr ⟨lw_p69, List.forall_mem_cons.mpr ⟨lw_p70, List.forall_mem_cons.mpr ⟨lw_p71, List.forall_mem_cons.mpr ⟨lw_p72, List.forall_mem_cons.mpr ⟨lw_p73, List.forall_mem_cons.mpr ⟨lw_p74, List.forall_mem_cons.mpr ⟨lw_p75, List.forall_mem_cons.mpr ⟨lw_p76, List.forall_mem_cons.mpr ⟨lw_p77, List.forall_mem_cons.mpr ⟨lw_p78, List.forall_mem_cons.mpr ⟨lw_p79, fun _ h => absurd h List.not_mem_nil⟩⟩⟩⟩⟩⟩⟩⟩⟩⟩⟩⟩⟩⟩⟩⟩
theorem lw_p80 : lw_okq (⟨"MeadowSignsModel", "readNever", "()V"⟩, 80) := ⟨⟨by decide +kernel, by decide +kernel⟩, List.mem_of_getElem? (i := 1167) (by decide +kernel), List.mem_of_getElem? (i := 1545) (by decide +kernel), List.mem_of_getElem? (i := 1546) (by decide +kernel)⟩
theorem lw_p81 : lw_okq (⟨"MeadowSignsModel", "readBarn", "()V"⟩, 80) := ⟨⟨by decide +kernel, by decide +kernel⟩, List.mem_of_getElem? (i := 1167) (by decide +kernel), List.mem_of_getElem? (i := 1549) (by decide +kernel), List.mem_of_getElem? (i := 1550) (by decide +kernel)⟩
theorem lw_p82 : lw_okq (⟨"MeadowSignsModel", "readRule", "(I)V"⟩, 80) := ⟨⟨by decide +kernel, by decide +kernel⟩, List.mem_of_getElem? (i := 1167) (by decide +kernel), List.mem_of_getElem? (i := 1553) (by decide +kernel), List.mem_of_getElem? (i := 1554) (by decide +kernel)⟩
theorem lw_p83 : lw_okq (⟨"MeadowSignsModel", "e", "()V"⟩, 80) := ⟨⟨by decide +kernel, by decide +kernel⟩, List.mem_of_getElem? (i := 1167) (by decide +kernel), List.mem_of_getElem? (i := 1557) (by decide +kernel), List.mem_of_getElem? (i := 1558) (by decide +kernel)⟩
theorem lw_p84 : lw_okq (⟨"MeadowSignsModel", "pushE", "(II)V"⟩, 80) := ⟨⟨by decide +kernel, by decide +kernel⟩, List.mem_of_getElem? (i := 1167) (by decide +kernel), List.mem_of_getElem? (i := 1561) (by decide +kernel), List.mem_of_getElem? (i := 1562) (by decide +kernel)⟩
theorem lw_p85 : lw_okq (⟨"MeadowSignsModel", "unit", "()Z"⟩, 80) := ⟨⟨by decide +kernel, by decide +kernel⟩, List.mem_of_getElem? (i := 1167) (by decide +kernel), List.mem_of_getElem? (i := 1565) (by decide +kernel), List.mem_of_getElem? (i := 1566) (by decide +kernel)⟩
theorem lw_p86 : lw_okq (⟨"MeadowSignsModel", "wordHere", "()I"⟩, 80) := ⟨⟨by decide +kernel, by decide +kernel⟩, List.mem_of_getElem? (i := 1167) (by decide +kernel), List.mem_of_getElem? (i := 1569) (by decide +kernel), List.mem_of_getElem? (i := 1570) (by decide +kernel)⟩
theorem lw_p87 : lw_okq (⟨"MeadowSignsModel", "emit", "(II)V"⟩, 80) := ⟨⟨by decide +kernel, by decide +kernel⟩, List.mem_of_getElem? (i := 1167) (by decide +kernel), List.mem_of_getElem? (i := 1573) (by decide +kernel), List.mem_of_getElem? (i := 1574) (by decide +kernel)⟩
theorem lw_p88 : lw_okq (⟨"MeadowSignsModel", "behindUnit", "()Z"⟩, 80) := ⟨⟨by decide +kernel, by decide +kernel⟩, List.mem_of_getElem? (i := 1167) (by decide +kernel), List.mem_of_getElem? (i := 1577) (by decide +kernel), List.mem_of_getElem? (i := 1578) (by decide +kernel)⟩
theorem lw_p89 : lw_okq (⟨"MeadowSignsModel", "rankHere", "()I"⟩, 80) := ⟨⟨by decide +kernel, by decide +kernel⟩, List.mem_of_getElem? (i := 1167) (by decide +kernel), List.mem_of_getElem? (i := 1581) (by decide +kernel), List.mem_of_getElem? (i := 1582) (by decide +kernel)⟩
theorem lw_p90 : lw_okq (⟨"MeadowSignsModel", "isCompared", "()Z"⟩, 80) := ⟨⟨by decide +kernel, by decide +kernel⟩, List.mem_of_getElem? (i := 1167) (by decide +kernel), List.mem_of_getElem? (i := 1585) (by decide +kernel), List.mem_of_getElem? (i := 1586) (by decide +kernel)⟩
theorem lw_p91 : lw_okq (⟨"MeadowSignsModel", "isThing", "(I)Z"⟩, 80) := ⟨⟨by decide +kernel, by decide +kernel⟩, List.mem_of_getElem? (i := 1167) (by decide +kernel), List.mem_of_getElem? (i := 1597) (by decide +kernel), List.mem_of_getElem? (i := 1598) (by decide +kernel)⟩
theorem lw_p92 : lw_okq (⟨"MeadowSignsModel", "isGlyph", "(I)Z"⟩, 80) := ⟨⟨by decide +kernel, by decide +kernel⟩, List.mem_of_getElem? (i := 1167) (by decide +kernel), List.mem_of_getElem? (i := 1608) (by decide +kernel), List.mem_of_getElem? (i := 1609) (by decide +kernel)⟩
theorem lw_p93 : lw_okq (⟨"MeadowSignsModel", "many", "()I"⟩, 80) := ⟨⟨by decide +kernel, by decide +kernel⟩, List.mem_of_getElem? (i := 1167) (by decide +kernel), List.mem_of_getElem? (i := 1612) (by decide +kernel), List.mem_of_getElem? (i := 1613) (by decide +kernel)⟩
theorem lw_p94 : lw_okq (⟨"MeadowSignsModel", "cellsOf", "(I)I"⟩, 80) := ⟨⟨by decide +kernel, by decide +kernel⟩, List.mem_of_getElem? (i := 1167) (by decide +kernel), List.mem_of_getElem? (i := 1616) (by decide +kernel), List.mem_of_getElem? (i := 1617) (by decide +kernel)⟩
theorem lw_p95 : lw_okq (⟨"MeadowSignsModel", "readNow", "()I"⟩, 80) := ⟨⟨by decide +kernel, by decide +kernel⟩, List.mem_of_getElem? (i := 1167) (by decide +kernel), List.mem_of_getElem? (i := 1620) (by decide +kernel), List.mem_of_getElem? (i := 1621) (by decide +kernel)⟩
def lw_privs_6 : List (MethodName × Nat) := [(⟨"MeadowSignsModel", "readNever", "()V"⟩, 80), (⟨"MeadowSignsModel", "readBarn", "()V"⟩, 80), (⟨"MeadowSignsModel", "readRule", "(I)V"⟩, 80), (⟨"MeadowSignsModel", "e", "()V"⟩, 80), (⟨"MeadowSignsModel", "pushE", "(II)V"⟩, 80), (⟨"MeadowSignsModel", "unit", "()Z"⟩, 80), (⟨"MeadowSignsModel", "wordHere", "()I"⟩, 80), (⟨"MeadowSignsModel", "emit", "(II)V"⟩, 80), (⟨"MeadowSignsModel", "behindUnit", "()Z"⟩, 80), (⟨"MeadowSignsModel", "rankHere", "()I"⟩, 80), (⟨"MeadowSignsModel", "isCompared", "()Z"⟩, 80), (⟨"MeadowSignsModel", "isThing", "(I)Z"⟩, 80), (⟨"MeadowSignsModel", "isGlyph", "(I)Z"⟩, 80), (⟨"MeadowSignsModel", "many", "()I"⟩, 80), (⟨"MeadowSignsModel", "cellsOf", "(I)I"⟩, 80), (⟨"MeadowSignsModel", "readNow", "()I"⟩, 80)]
theorem lw_r6 : ∀ q ∈ lw_privs_6, lw_okq q := List.forall_mem_cons.mpr ⟨lw_p80, List.forall_mem_cons.mpr ⟨lw_p81, List.forall_mem_cons.mpr ⟨lw_p82, List.forall_mem_cons.mpr ⟨lw_p83, List.forall_mem_cons.mpr ⟨lw_p84, List.forall_mem_cons.mpr ⟨lw_p85, List.forall_mem_cons.mpr ⟨lw_p86, List.forall_mem_cons.mpr ⟨lw_p87, List.forall_mem_cons.mpr ⟨lw_p88, List.forall_mem_cons.mpr ⟨lw_p89, List.forall_mem_cons.mpr ⟨lw_p90, List.forall_mem_cons.mpr ⟨lw_p91, List.forall_mem_cons.mpr ⟨lw_p92, List.forall_mem_cons.mpr ⟨lw_p93, List.forall_mem_cons.mpr ⟨lw_p94, List.forall_mem_cons.mpr ⟨lw_p95, fun _ h => absurd h List.not_mem_nil⟩⟩⟩⟩⟩⟩⟩⟩⟩⟩⟩⟩⟩⟩⟩⟩
theorem lw_p96 : lw_okq (⟨"MeadowSignsModel", "layWeights", "()V"⟩, 80) := ⟨⟨by decide +kernel, by decide +kernel⟩, List.mem_of_getElem? (i := 1167) (by decide +kernel), List.mem_of_getElem? (i := 1624) (by decide +kernel), List.mem_of_getElem? (i := 1625) (by decide +kernel)⟩
theorem lw_p97 : lw_okq (⟨"MeadowSignsModel", "width", "()I"⟩, 80) := ⟨⟨by decide +kernel, by decide +kernel⟩, List.mem_of_getElem? (i := 1167) (by decide +kernel), List.mem_of_getElem? (i := 1628) (by decide +kernel), List.mem_of_getElem? (i := 1629) (by decide +kernel)⟩
theorem lw_p98 : lw_okq (⟨"MeadowSignsModel", "comes", "(I)I"⟩, 80) := ⟨⟨by decide +kernel, by decide +kernel⟩, List.mem_of_getElem? (i := 1167) (by decide +kernel), List.mem_of_getElem? (i := 1632) (by decide +kernel), List.mem_of_getElem? (i := 1633) (by decide +kernel)⟩
theorem lw_p99 : lw_okq (⟨"MeadowSignsModel", "asked", "(II)I"⟩, 80) := ⟨⟨by decide +kernel, by decide +kernel⟩, List.mem_of_getElem? (i := 1167) (by decide +kernel), List.mem_of_getElem? (i := 1636) (by decide +kernel), List.mem_of_getElem? (i := 1637) (by decide +kernel)⟩
theorem lw_p100 : lw_okq (⟨"MeadowSignsModel", "looks", "()I"⟩, 80) := ⟨⟨by decide +kernel, by decide +kernel⟩, List.mem_of_getElem? (i := 1167) (by decide +kernel), List.mem_of_getElem? (i := 1646) (by decide +kernel), List.mem_of_getElem? (i := 1647) (by decide +kernel)⟩
theorem lw_p101 : lw_okq (⟨"MeadowSignsModel", "mown", "()I"⟩, 80) := ⟨⟨by decide +kernel, by decide +kernel⟩, List.mem_of_getElem? (i := 1167) (by decide +kernel), List.mem_of_getElem? (i := 1650) (by decide +kernel), List.mem_of_getElem? (i := 1651) (by decide +kernel)⟩
theorem lw_p102 : lw_okq (⟨"MeadowSignsModel", "read", "(I)I"⟩, 80) := ⟨⟨by decide +kernel, by decide +kernel⟩, List.mem_of_getElem? (i := 1167) (by decide +kernel), List.mem_of_getElem? (i := 1654) (by decide +kernel), List.mem_of_getElem? (i := 1655) (by decide +kernel)⟩
theorem lw_p103 : lw_okq (⟨"MeadowSignsModel", "layFrom", "(III)V"⟩, 80) := ⟨⟨by decide +kernel, by decide +kernel⟩, List.mem_of_getElem? (i := 1167) (by decide +kernel), List.mem_of_getElem? (i := 1661) (by decide +kernel), List.mem_of_getElem? (i := 1662) (by decide +kernel)⟩
theorem lw_p104 : lw_okq (⟨"MeadowSignsModel", "canFollow", "(II)Z"⟩, 80) := ⟨⟨by decide +kernel, by decide +kernel⟩, List.mem_of_getElem? (i := 1167) (by decide +kernel), List.mem_of_getElem? (i := 1666) (by decide +kernel), List.mem_of_getElem? (i := 1667) (by decide +kernel)⟩
theorem lw_p105 : lw_okq (⟨"MeadowSignsModel", "doesLie", "(III)Z"⟩, 80) := ⟨⟨by decide +kernel, by decide +kernel⟩, List.mem_of_getElem? (i := 1167) (by decide +kernel), List.mem_of_getElem? (i := 1673) (by decide +kernel), List.mem_of_getElem? (i := 1674) (by decide +kernel)⟩
theorem lw_p106 : lw_okq (⟨"MeadowSignsModel", "sumWays", "(II)I"⟩, 80) := ⟨⟨by decide +kernel, by decide +kernel⟩, List.mem_of_getElem? (i := 1167) (by decide +kernel), List.mem_of_getElem? (i := 1677) (by decide +kernel), List.mem_of_getElem? (i := 1678) (by decide +kernel)⟩
theorem lw_p107 : lw_okq (⟨"MeadowSignsModel", "nextAt", "(III)I"⟩, 80) := ⟨⟨by decide +kernel, by decide +kernel⟩, List.mem_of_getElem? (i := 1167) (by decide +kernel), List.mem_of_getElem? (i := 1682) (by decide +kernel), List.mem_of_getElem? (i := 1683) (by decide +kernel)⟩
theorem lw_p108 : lw_okq (⟨"MeadowSignsModel", "isCell", "(I)Z"⟩, 80) := ⟨⟨by decide +kernel, by decide +kernel⟩, List.mem_of_getElem? (i := 1167) (by decide +kernel), List.mem_of_getElem? (i := 1690) (by decide +kernel), List.mem_of_getElem? (i := 1691) (by decide +kernel)⟩
theorem lw_p109 : lw_okq (⟨"MeadowSignsModel", "signAt", "(I)I"⟩, 80) := ⟨⟨by decide +kernel, by decide +kernel⟩, List.mem_of_getElem? (i := 1167) (by decide +kernel), List.mem_of_getElem? (i := 1694) (by decide +kernel), List.mem_of_getElem? (i := 1695) (by decide +kernel)⟩
theorem lw_p110 : lw_okq (⟨"MeadowSignsModel", "keepAct", "()V"⟩, 80) := ⟨⟨by decide +kernel, by decide +kernel⟩, List.mem_of_getElem? (i := 1167) (by decide +kernel), List.mem_of_getElem? (i := 1702) (by decide +kernel), List.mem_of_getElem? (i := 1703) (by decide +kernel)⟩
theorem lw_p111 : lw_okq (⟨"MeadowSignsModel", "goYear", "()I"⟩, 80) := ⟨⟨by decide +kernel, by decide +kernel⟩, List.mem_of_getElem? (i := 1167) (by decide +kernel), List.mem_of_getElem? (i := 1717) (by decide +kernel), List.mem_of_getElem? (i := 1718) (by decide +kernel)⟩
def lw_privs_7 : List (MethodName × Nat) := [(⟨"MeadowSignsModel", "layWeights", "()V"⟩, 80), (⟨"MeadowSignsModel", "width", "()I"⟩, 80), (⟨"MeadowSignsModel", "comes", "(I)I"⟩, 80), (⟨"MeadowSignsModel", "asked", "(II)I"⟩, 80), (⟨"MeadowSignsModel", "looks", "()I"⟩, 80), (⟨"MeadowSignsModel", "mown", "()I"⟩, 80), (⟨"MeadowSignsModel", "read", "(I)I"⟩, 80), (⟨"MeadowSignsModel", "layFrom", "(III)V"⟩, 80), (⟨"MeadowSignsModel", "canFollow", "(II)Z"⟩, 80), (⟨"MeadowSignsModel", "doesLie", "(III)Z"⟩, 80), (⟨"MeadowSignsModel", "sumWays", "(II)I"⟩, 80), (⟨"MeadowSignsModel", "nextAt", "(III)I"⟩, 80), (⟨"MeadowSignsModel", "isCell", "(I)Z"⟩, 80), (⟨"MeadowSignsModel", "signAt", "(I)I"⟩, 80), (⟨"MeadowSignsModel", "keepAct", "()V"⟩, 80), (⟨"MeadowSignsModel", "goYear", "()I"⟩, 80)]
theorem lw_r7 : ∀ q ∈ lw_privs_7, lw_okq q := List.forall_mem_cons.mpr ⟨lw_p96, List.forall_mem_cons.mpr ⟨lw_p97, List.forall_mem_cons.mpr ⟨lw_p98, List.forall_mem_cons.mpr ⟨lw_p99, List.forall_mem_cons.mpr ⟨lw_p100, List.forall_mem_cons.mpr ⟨lw_p101, List.forall_mem_cons.mpr ⟨lw_p102, List.forall_mem_cons.mpr ⟨lw_p103, List.forall_mem_cons.mpr ⟨lw_p104, List.forall_mem_cons.mpr ⟨lw_p105, List.forall_mem_cons.mpr ⟨lw_p106, List.forall_mem_cons.mpr ⟨lw_p107, List.forall_mem_cons.mpr ⟨lw_p108, List.forall_mem_cons.mpr ⟨lw_p109, List.forall_mem_cons.mpr ⟨lw_p110, List.forall_mem_cons.mpr ⟨lw_p111, fun _ h => absurd h List.not_mem_nil⟩⟩⟩⟩⟩⟩⟩⟩⟩⟩⟩⟩⟩⟩⟩⟩
theorem lw_p112 : lw_okq (⟨"MeadowSignsModel", "exchange", "()V"⟩, 80) := ⟨⟨by decide +kernel, by decide +kernel⟩, List.mem_of_getElem? (i := 1167) (by decide +kernel), List.mem_of_getElem? (i := 1725) (by decide +kernel), List.mem_of_getElem? (i := 1726) (by decide +kernel)⟩
theorem lw_p113 : lw_okq (⟨"MeadowSignsModel", "waysOf", "()I"⟩, 80) := ⟨⟨by decide +kernel, by decide +kernel⟩, List.mem_of_getElem? (i := 1167) (by decide +kernel), List.mem_of_getElem? (i := 1737) (by decide +kernel), List.mem_of_getElem? (i := 1738) (by decide +kernel)⟩
theorem lw_p114 : lw_okq (⟨"MeadowSignsModel", "valueFor", "(I)I"⟩, 80) := ⟨⟨by decide +kernel, by decide +kernel⟩, List.mem_of_getElem? (i := 1167) (by decide +kernel), List.mem_of_getElem? (i := 1757) (by decide +kernel), List.mem_of_getElem? (i := 1758) (by decide +kernel)⟩
theorem lw_p115 : lw_okq (⟨"MeadowSignsModel", "goYears", "(I)V"⟩, 80) := ⟨⟨by decide +kernel, by decide +kernel⟩, List.mem_of_getElem? (i := 1167) (by decide +kernel), List.mem_of_getElem? (i := 1765) (by decide +kernel), List.mem_of_getElem? (i := 1766) (by decide +kernel)⟩
theorem lw_p116 : lw_okq (⟨"MeadowSignsModel", "bringBack", "()V"⟩, 80) := ⟨⟨by decide +kernel, by decide +kernel⟩, List.mem_of_getElem? (i := 1167) (by decide +kernel), List.mem_of_getElem? (i := 1769) (by decide +kernel), List.mem_of_getElem? (i := 1770) (by decide +kernel)⟩
theorem lw_p117 : lw_okq (⟨"MeadowSignsModel", "isHarm", "()Z"⟩, 80) := ⟨⟨by decide +kernel, by decide +kernel⟩, List.mem_of_getElem? (i := 1167) (by decide +kernel), List.mem_of_getElem? (i := 1781) (by decide +kernel), List.mem_of_getElem? (i := 1782) (by decide +kernel)⟩
theorem lw_p118 : lw_okq (⟨"MeadowSignsModel", "change", "(I)I"⟩, 80) := ⟨⟨by decide +kernel, by decide +kernel⟩, List.mem_of_getElem? (i := 1167) (by decide +kernel), List.mem_of_getElem? (i := 1789) (by decide +kernel), List.mem_of_getElem? (i := 1790) (by decide +kernel)⟩
theorem lw_p119 : lw_okq (⟨"MeadowSignsModel", "isWanted", "(II)Z"⟩, 80) := ⟨⟨by decide +kernel, by decide +kernel⟩, List.mem_of_getElem? (i := 1167) (by decide +kernel), List.mem_of_getElem? (i := 1793) (by decide +kernel), List.mem_of_getElem? (i := 1794) (by decide +kernel)⟩
theorem lw_p120 : lw_okq (⟨"MeadowSignsModel", "openCells", "()I"⟩, 80) := ⟨⟨by decide +kernel, by decide +kernel⟩, List.mem_of_getElem? (i := 1167) (by decide +kernel), List.mem_of_getElem? (i := 1805) (by decide +kernel), List.mem_of_getElem? (i := 1806) (by decide +kernel)⟩
theorem lw_p121 : lw_okq (⟨"MeadowSignsModel", "isHarmBy", "(II)Z"⟩, 80) := ⟨⟨by decide +kernel, by decide +kernel⟩, List.mem_of_getElem? (i := 1167) (by decide +kernel), List.mem_of_getElem? (i := 1809) (by decide +kernel), List.mem_of_getElem? (i := 1810) (by decide +kernel)⟩
theorem lw_p122 : lw_okq (⟨"MeadowSignsModel", "layOrder", "(II)V"⟩, 80) := ⟨⟨by decide +kernel, by decide +kernel⟩, List.mem_of_getElem? (i := 1167) (by decide +kernel), List.mem_of_getElem? (i := 1813) (by decide +kernel), List.mem_of_getElem? (i := 1814) (by decide +kernel)⟩
theorem lw_p123 : lw_okq (⟨"MeadowSignsModel", "isPlaced", "(II)Z"⟩, 80) := ⟨⟨by decide +kernel, by decide +kernel⟩, List.mem_of_getElem? (i := 1167) (by decide +kernel), List.mem_of_getElem? (i := 1821) (by decide +kernel), List.mem_of_getElem? (i := 1822) (by decide +kernel)⟩
theorem lw_p124 : lw_okq (⟨"MeadowSignsModel", "lettersOf", "(I)I"⟩, 80) := ⟨⟨by decide +kernel, by decide +kernel⟩, List.mem_of_getElem? (i := 1167) (by decide +kernel), List.mem_of_getElem? (i := 1825) (by decide +kernel), List.mem_of_getElem? (i := 1826) (by decide +kernel)⟩
theorem lw_p125 : lw_okq (⟨"MeadowSignsModel", "isWritten", "(I)Z"⟩, 80) := ⟨⟨by decide +kernel, by decide +kernel⟩, List.mem_of_getElem? (i := 1167) (by decide +kernel), List.mem_of_getElem? (i := 1829) (by decide +kernel), List.mem_of_getElem? (i := 1830) (by decide +kernel)⟩
theorem lw_p126 : lw_okq (⟨"MeadowSignsModel", "isOpenSet", "(I)Z"⟩, 80) := ⟨⟨by decide +kernel, by decide +kernel⟩, List.mem_of_getElem? (i := 1167) (by decide +kernel), List.mem_of_getElem? (i := 1845) (by decide +kernel), List.mem_of_getElem? (i := 1846) (by decide +kernel)⟩
theorem lw_p127 : lw_okq (⟨"MeadowSignsModel", "answered", "(III)I"⟩, 80) := ⟨⟨by decide +kernel, by decide +kernel⟩, List.mem_of_getElem? (i := 1167) (by decide +kernel), List.mem_of_getElem? (i := 1849) (by decide +kernel), List.mem_of_getElem? (i := 1850) (by decide +kernel)⟩
def lw_privs_8 : List (MethodName × Nat) := [(⟨"MeadowSignsModel", "exchange", "()V"⟩, 80), (⟨"MeadowSignsModel", "waysOf", "()I"⟩, 80), (⟨"MeadowSignsModel", "valueFor", "(I)I"⟩, 80), (⟨"MeadowSignsModel", "goYears", "(I)V"⟩, 80), (⟨"MeadowSignsModel", "bringBack", "()V"⟩, 80), (⟨"MeadowSignsModel", "isHarm", "()Z"⟩, 80), (⟨"MeadowSignsModel", "change", "(I)I"⟩, 80), (⟨"MeadowSignsModel", "isWanted", "(II)Z"⟩, 80), (⟨"MeadowSignsModel", "openCells", "()I"⟩, 80), (⟨"MeadowSignsModel", "isHarmBy", "(II)Z"⟩, 80), (⟨"MeadowSignsModel", "layOrder", "(II)V"⟩, 80), (⟨"MeadowSignsModel", "isPlaced", "(II)Z"⟩, 80), (⟨"MeadowSignsModel", "lettersOf", "(I)I"⟩, 80), (⟨"MeadowSignsModel", "isWritten", "(I)Z"⟩, 80), (⟨"MeadowSignsModel", "isOpenSet", "(I)Z"⟩, 80), (⟨"MeadowSignsModel", "answered", "(III)I"⟩, 80)]
theorem lw_r8 : ∀ q ∈ lw_privs_8, lw_okq q := List.forall_mem_cons.mpr ⟨lw_p112, List.forall_mem_cons.mpr ⟨lw_p113, List.forall_mem_cons.mpr ⟨lw_p114, List.forall_mem_cons.mpr ⟨lw_p115, List.forall_mem_cons.mpr ⟨lw_p116, List.forall_mem_cons.mpr ⟨lw_p117, List.forall_mem_cons.mpr ⟨lw_p118, List.forall_mem_cons.mpr ⟨lw_p119, List.forall_mem_cons.mpr ⟨lw_p120, List.forall_mem_cons.mpr ⟨lw_p121, List.forall_mem_cons.mpr ⟨lw_p122, List.forall_mem_cons.mpr ⟨lw_p123, List.forall_mem_cons.mpr ⟨lw_p124, List.forall_mem_cons.mpr ⟨lw_p125, List.forall_mem_cons.mpr ⟨lw_p126, List.forall_mem_cons.mpr ⟨lw_p127, fun _ h => absurd h List.not_mem_nil⟩⟩⟩⟩⟩⟩⟩⟩⟩⟩⟩⟩⟩⟩⟩⟩
theorem lw_p128 : lw_okq (⟨"MeadowSignsModel", "isFirst", "(I)Z"⟩, 80) := ⟨⟨by decide +kernel, by decide +kernel⟩, List.mem_of_getElem? (i := 1167) (by decide +kernel), List.mem_of_getElem? (i := 1857) (by decide +kernel), List.mem_of_getElem? (i := 1858) (by decide +kernel)⟩
theorem lw_p129 : lw_okq (⟨"MeadowSignsModel", "firsts", "()I"⟩, 80) := ⟨⟨by decide +kernel, by decide +kernel⟩, List.mem_of_getElem? (i := 1167) (by decide +kernel), List.mem_of_getElem? (i := 1861) (by decide +kernel), List.mem_of_getElem? (i := 1862) (by decide +kernel)⟩
theorem lw_p130 : lw_okq (⟨"MeadowSignsModel", "pair", "(II)I"⟩, 80) := ⟨⟨by decide +kernel, by decide +kernel⟩, List.mem_of_getElem? (i := 1167) (by decide +kernel), List.mem_of_getElem? (i := 1865) (by decide +kernel), List.mem_of_getElem? (i := 1866) (by decide +kernel)⟩
theorem lw_p131 : lw_okq (⟨"MeadowSignsModel", "layFit", "(I)V"⟩, 80) := ⟨⟨by decide +kernel, by decide +kernel⟩, List.mem_of_getElem? (i := 1167) (by decide +kernel), List.mem_of_getElem? (i := 1882) (by decide +kernel), List.mem_of_getElem? (i := 1883) (by decide +kernel)⟩
theorem lw_p132 : lw_okq (⟨"MeadowSignsModel", "doesFit", "(II)Z"⟩, 80) := ⟨⟨by decide +kernel, by decide +kernel⟩, List.mem_of_getElem? (i := 1167) (by decide +kernel), List.mem_of_getElem? (i := 1886) (by decide +kernel), List.mem_of_getElem? (i := 1887) (by decide +kernel)⟩
def lw_privs_9 : List (MethodName × Nat) := [(⟨"MeadowSignsModel", "isFirst", "(I)Z"⟩, 80), (⟨"MeadowSignsModel", "firsts", "()I"⟩, 80), (⟨"MeadowSignsModel", "pair", "(II)I"⟩, 80), (⟨"MeadowSignsModel", "layFit", "(I)V"⟩, 80), (⟨"MeadowSignsModel", "doesFit", "(II)Z"⟩, 80)]
theorem lw_r9 : ∀ q ∈ lw_privs_9, lw_okq q := List.forall_mem_cons.mpr ⟨lw_p128, List.forall_mem_cons.mpr ⟨lw_p129, List.forall_mem_cons.mpr ⟨lw_p130, List.forall_mem_cons.mpr ⟨lw_p131, List.forall_mem_cons.mpr ⟨lw_p132, fun _ h => absurd h List.not_mem_nil⟩⟩⟩⟩⟩
def lw_privs : List (MethodName × Nat) := lw_privs_1 ++ (lw_privs_2 ++ (lw_privs_3 ++ (lw_privs_4 ++ (lw_privs_5 ++ (lw_privs_6 ++ (lw_privs_7 ++ (lw_privs_8 ++ (lw_privs_9))))))))
def lw_tbl : List Cond := k2_sels lw_privs ++ tables_1
theorem lw_privs_ok : ∀ q ∈ lw_privs, lw_okq q := by
  show ∀ q ∈ lw_privs_1 ++ (lw_privs_2 ++ (lw_privs_3 ++ (lw_privs_4 ++ (lw_privs_5 ++ (lw_privs_6 ++ (lw_privs_7 ++ (lw_privs_8 ++ (lw_privs_9)))))))), lw_okq q
  exact List.forall_mem_append.mpr ⟨lw_r1, List.forall_mem_append.mpr ⟨lw_r2, List.forall_mem_append.mpr ⟨lw_r3, List.forall_mem_append.mpr ⟨lw_r4, List.forall_mem_append.mpr ⟨lw_r5, List.forall_mem_append.mpr ⟨lw_r6, List.forall_mem_append.mpr ⟨lw_r7, List.forall_mem_append.mpr ⟨lw_r8, lw_r9⟩⟩⟩⟩⟩⟩⟩⟩
-- ===== end of PART A; then your names; then what follows =====
end
section
/-! NAMES: the classes of the system and their fields, in an order of our own (printed by a program out of the statement's own tables) -/
def en_T0 : u_T := fun k => match k with
  | 0 => ("MeadowSigns$Formula", "code", "[I", true)
  | 1 => ("MeadowSigns$Formula", "stack", "[I", true)
  | 2 => ("MeadowSigns$Formula", "untold", "I", true)
  | _ => ("MeadowSigns$Formula", "length", "I", false)
def en_T1 : u_T := fun k => match k with
  | 0 => ("MeadowSigns$Hearsay", "rivals", "[I", true)
  | 1 => ("MeadowSigns$Hearsay", "signs", "I", false)
  | 2 => ("MeadowSigns$Hearsay", "count", "I", false)
  | 3 => ("MeadowSigns$Hearsay", "time", "I", false)
  | 4 => ("MeadowSigns$Hearsay", "pairs", "[I", true)
  | 5 => ("MeadowSigns$Hearsay", "understood", "[Z", true)
  | 6 => ("MeadowSigns$Hearsay", "toldAt", "[I", true)
  | _ => ("MeadowSigns$Hearsay", "untoldAt", "[I", true)
def en_T2 : u_T := fun k => match k with
  | 0 => ("MeadowSigns$History", "done", "I", false)
  | 1 => ("MeadowSigns$History", "acts", "[I", true)
  | 2 => ("MeadowSigns$History", "oldest", "I", false)
  | 3 => ("MeadowSigns$History", "filled", "I", false)
  | 4 => ("MeadowSigns$History", "boxes", "[I", true)
  | _ => ("MeadowSigns$History", "undone", "I", false)
def en_T3 : u_T := fun k => match k with
  | 0 => ("MeadowSigns$Parser", "tape", "LMeadowSigns$Tape;", true)
  | 1 => ("MeadowSigns$Parser", "target", "LMeadowSigns$Told;", false)
  | 2 => ("MeadowSigns$Parser", "lines", "I", false)
  | 3 => ("MeadowSigns$Parser", "drawTold", "Z", false)
  | 4 => ("MeadowSigns$Parser", "unitsOfOne", "I", false)
  | 5 => ("MeadowSigns$Parser", "value", "I", false)
  | 6 => ("MeadowSigns$Parser", "fault", "I", false)
  | _ => ("MeadowSigns$Parser", "place", "I", false)
def en_T4 : u_T := fun k => match k with
  | 0 => ("MeadowSigns$Planner", "reader", "LMeadowSigns$Reader;", true)
  | 1 => ("MeadowSigns$Planner", "ways", "[I", true)
  | 2 => ("MeadowSigns$Planner", "told", "LMeadowSigns$Told;", false)
  | 3 => ("MeadowSigns$Planner", "look", "I", false)
  | 4 => ("MeadowSigns$Planner", "members", "[I", true)
  | 5 => ("MeadowSigns$Planner", "open", "I", false)
  | 6 => ("MeadowSigns$Planner", "lying", "I", false)
  | 7 => ("MeadowSigns$Planner", "numbers", "[I", true)
  | 8 => ("MeadowSigns$Planner", "wantedCount", "I", false)
  | 9 => ("MeadowSigns$Planner", "goalThing", "I", false)
  | 10 => ("MeadowSigns$Planner", "goalGain", "I", false)
  | 11 => ("MeadowSigns$Planner", "wanted", "[I", true)
  | 12 => ("MeadowSigns$Planner", "sentence", "[I", true)
  | _ => ("MeadowSigns$Planner", "sentenceLength", "I", false)
def en_T5 : u_T := fun k => match k with
  | 0 => ("MeadowSigns$Reader", "mownFrom", "[I", true)
  | 1 => ("MeadowSigns$Reader", "look", "I", false)
  | 2 => ("MeadowSigns$Reader", "own", "[I", true)
  | 3 => ("MeadowSigns$Reader", "count", "[I", true)
  | 4 => ("MeadowSigns$Reader", "told", "LMeadowSigns$Told;", false)
  | 5 => ("MeadowSigns$Reader", "best", "[I", true)
  | 6 => ("MeadowSigns$Reader", "fresh", "Z", false)
  | 7 => ("MeadowSigns$Reader", "inputs", "[I", true)
  | 8 => ("MeadowSigns$Reader", "taken", "I", false)
  | 9 => ("MeadowSigns$Reader", "pick", "[I", true)
  | 10 => ("MeadowSigns$Reader", "weights", "[I", true)
  | 11 => ("MeadowSigns$Reader", "sums", "[I", true)
  | 12 => ("MeadowSigns$Reader", "counts", "[I", true)
  | 13 => ("MeadowSigns$Reader", "cells", "[I", true)
  | _ => ("MeadowSigns$Reader", "signs", "[I", true)
def en_T6 : u_T := fun k => match k with
  | 0 => ("MeadowSigns$State", "mown", "I", false)
  | 1 => ("MeadowSigns$State", "year", "I", false)
  | 2 => ("MeadowSigns$State", "seed", "I", false)
  | 3 => ("MeadowSigns$State", "ages", "[I", true)
  | 4 => ("MeadowSigns$State", "amounts", "[I", true)
  | _ => ("MeadowSigns$State", "inputs", "[I", true)
def en_T7 : u_T := fun k => match k with
  | 0 => ("MeadowSigns$Tape", "length", "I", false)
  | 1 => ("MeadowSigns$Tape", "bytes", "[B", true)
  | 2 => ("MeadowSigns$Tape", "next", "I", false)
  | 3 => ("MeadowSigns$Tape", "kind", "I", false)
  | 4 => ("MeadowSigns$Tape", "place", "I", false)
  | 5 => ("MeadowSigns$Tape", "number", "I", false)
  | 6 => ("MeadowSigns$Tape", "word", "J", false)
  | _ => ("MeadowSigns$Tape", "wordLength", "I", false)
def en_T8 : u_T := fun k => match k with
  | 0 => ("MeadowSigns$Told", "size", "I", false)
  | 1 => ("MeadowSigns$Told", "signs", "I", false)
  | 2 => ("MeadowSigns$Told", "barns", "I", false)
  | 3 => ("MeadowSigns$Told", "starts", "[I", true)
  | 4 => ("MeadowSigns$Told", "neverBehind", "[I", true)
  | 5 => ("MeadowSigns$Told", "neverAhead", "[I", true)
  | 6 => ("MeadowSigns$Told", "things", "I", false)
  | 7 => ("MeadowSigns$Told", "draw", "I", false)
  | 8 => ("MeadowSigns$Told", "nevers", "I", false)
  | 9 => ("MeadowSigns$Told", "units", "I", false)
  | 10 => ("MeadowSigns$Told", "weigh", "LMeadowSigns$Formula;", true)
  | 11 => ("MeadowSigns$Told", "grow", "LMeadowSigns$Formula;", true)
  | 12 => ("MeadowSigns$Told", "thingNames", "[J", true)
  | 13 => ("MeadowSigns$Told", "signNames", "[J", true)
  | 14 => ("MeadowSigns$Told", "shapes", "[I", true)
  | 15 => ("MeadowSigns$Told", "letters", "[I", true)
  | 16 => ("MeadowSigns$Told", "signThings", "[I", true)
  | _ => ("MeadowSigns$Told", "values", "[I", true)
def en_T9 : u_T := fun k => match k with
  | 0 => ("MeadowSigns", "told", "LMeadowSigns$Told;", false)
  | 1 => ("MeadowSigns", "state", "LMeadowSigns$State;", true)
  | 2 => ("MeadowSigns", "reader", "LMeadowSigns$Reader;", true)
  | 3 => ("MeadowSigns", "planner", "LMeadowSigns$Planner;", true)
  | 4 => ("MeadowSigns", "history", "LMeadowSigns$History;", true)
  | 5 => ("MeadowSigns", "hearsay", "LMeadowSigns$Hearsay;", true)
  | 6 => ("MeadowSigns", "ahead", "LMeadowSigns$State;", true)
  | 7 => ("MeadowSigns", "parser", "LMeadowSigns$Parser;", true)
  | _ => ("MeadowSigns", "spare", "LMeadowSigns$Told;", false)
def en_T10 : u_T := fun k => match k with
  | 0 => ("MeadowSignsModel", "bank", "I", false)
  | 1 => ("MeadowSignsModel", "signs", "[I", true)
  | 2 => ("MeadowSignsModel", "ways", "[I", true)
  | 3 => ("MeadowSignsModel", "best", "[I", true)
  | 4 => ("MeadowSignsModel", "wide", "[I", true)
  | 5 => ("MeadowSignsModel", "all", "[I", true)
  | 6 => ("MeadowSignsModel", "acts", "I", false)
  | 7 => ("MeadowSignsModel", "was", "[I", true)
  | 8 => ("MeadowSignsModel", "kept", "[I", true)
  | 9 => ("MeadowSignsModel", "boxAll", "[I", true)
  | 10 => ("MeadowSignsModel", "barns", "[I", true)
  | 11 => ("MeadowSignsModel", "takenMany", "I", false)
  | 12 => ("MeadowSignsModel", "waysFrom", "[I", true)
  | 13 => ("MeadowSignsModel", "rb", "I", false)
  | 14 => ("MeadowSignsModel", "taped", "I", false)
  | 15 => ("MeadowSignsModel", "things", "[I", true)
  | 16 => ("MeadowSignsModel", "tape", "[B", true)
  | 17 => ("MeadowSignsModel", "cellOf", "[I", true)
  | 18 => ("MeadowSignsModel", "neverOf", "[I", true)
  | 19 => ("MeadowSignsModel", "isBoxed", "[Z", true)
  | 20 => ("MeadowSignsModel", "laid", "I", false)
  | 21 => ("MeadowSignsModel", "size", "I", false)
  | 22 => ("MeadowSignsModel", "time", "I", false)
  | 23 => ("MeadowSignsModel", "faultKind", "I", false)
  | 24 => ("MeadowSignsModel", "at", "I", false)
  | 25 => ("MeadowSignsModel", "draw", "[I", true)
  | 26 => ("MeadowSignsModel", "hasRule", "[Z", true)
  | 27 => ("MeadowSignsModel", "sounds", "I", false)
  | 28 => ("MeadowSignsModel", "nevers", "[I", true)
  | 29 => ("MeadowSignsModel", "units", "[I", true)
  | 30 => ("MeadowSignsModel", "laidRow", "[I", true)
  | 31 => ("MeadowSignsModel", "barnMany", "[I", true)
  | 32 => ("MeadowSignsModel", "lines", "[I", true)
  | 33 => ("MeadowSignsModel", "isDraw", "[Z", true)
  | 34 => ("MeadowSignsModel", "undone", "I", false)
  | 35 => ("MeadowSignsModel", "fitting", "I", false)
  | 36 => ("MeadowSignsModel", "faultPlace", "I", false)
  | 37 => ("MeadowSignsModel", "end", "I", false)
  | 38 => ("MeadowSignsModel", "token", "I", false)
  | 39 => ("MeadowSignsModel", "wantedMany", "I", false)
  | 40 => ("MeadowSignsModel", "text", "[B", true)
  | 41 => ("MeadowSignsModel", "number", "I", false)
  | 42 => ("MeadowSignsModel", "name", "J", false)
  | 43 => ("MeadowSignsModel", "thingAt", "[I", true)
  | 44 => ("MeadowSignsModel", "shape", "[I", true)
  | 45 => ("MeadowSignsModel", "letters", "[I", true)
  | 46 => ("MeadowSignsModel", "doesTo", "[I", true)
  | 47 => ("MeadowSignsModel", "value", "[I", true)
  | 48 => ("MeadowSignsModel", "ruleFrom", "[I", true)
  | 49 => ("MeadowSignsModel", "ruleTo", "[I", true)
  | 50 => ("MeadowSignsModel", "tName", "[J", true)
  | 51 => ("MeadowSignsModel", "gName", "[J", true)
  | 52 => ("MeadowSignsModel", "code", "[I", true)
  | 53 => ("MeadowSignsModel", "codeNumber", "[I", true)
  | 54 => ("MeadowSignsModel", "eWhat", "[I", true)
  | 55 => ("MeadowSignsModel", "eSign", "[I", true)
  | 56 => ("MeadowSignsModel", "pile", "[I", true)
  | 57 => ("MeadowSignsModel", "codes", "I", false)
  | 58 => ("MeadowSignsModel", "within", "I", false)
  | 59 => ("MeadowSignsModel", "piled", "I", false)
  | 60 => ("MeadowSignsModel", "unitsInRule", "I", false)
  | 61 => ("MeadowSignsModel", "askLong", "I", false)
  | 62 => ("MeadowSignsModel", "askPlace", "I", false)
  | 63 => ("MeadowSignsModel", "askMuch", "I", false)
  | 64 => ("MeadowSignsModel", "askAge", "I", false)
  | 65 => ("MeadowSignsModel", "askDry", "I", false)
  | 66 => ("MeadowSignsModel", "weights", "[I", true)
  | 67 => ("MeadowSignsModel", "takenSign", "[I", true)
  | 68 => ("MeadowSignsModel", "takenCell", "[I", true)
  | 69 => ("MeadowSignsModel", "wantedRow", "[I", true)
  | 70 => ("MeadowSignsModel", "wantedThing", "I", false)
  | 71 => ("MeadowSignsModel", "wantedValue", "I", false)
  | 72 => ("MeadowSignsModel", "written", "[I", true)
  | 73 => ("MeadowSignsModel", "writtenAt", "[I", true)
  | 74 => ("MeadowSignsModel", "answer", "I", false)
  | 75 => ("MeadowSignsModel", "hPairs", "[I", true)
  | 76 => ("MeadowSignsModel", "hIs", "[I", true)
  | 77 => ("MeadowSignsModel", "hTold", "[I", true)
  | 78 => ("MeadowSignsModel", "hUntold", "[I", true)
  | _ => ("MeadowSignsModel", "withPair", "[I", true)
abbrev en_classes : List vw_C := [("MeadowSigns$Formula", en_T0, 4), ("MeadowSigns$Hearsay", en_T1, 8), ("MeadowSigns$History", en_T2, 6), ("MeadowSigns$Parser", en_T3, 8), ("MeadowSigns$Planner", en_T4, 14), ("MeadowSigns$Reader", en_T5, 15), ("MeadowSigns$State", en_T6, 6), ("MeadowSigns$Tape", en_T7, 8), ("MeadowSigns$Told", en_T8, 18), ("MeadowSigns", en_T9, 9), ("MeadowSignsModel", en_T10, 80)]
/-- the fields of a new object -/
def ev_blank : List (List (Nat × Nat × Nat)) := [[(3, 0, 0), (3, 0, 0), (0, 0, 0), (0, 0, 0)], [(3, 0, 0), (0, 0, 0), (0, 0, 0), (0, 0, 0), (3, 0, 0), (3, 0, 0), (3, 0, 0), (3, 0, 0)], [(0, 0, 0), (3, 0, 0), (0, 0, 0), (0, 0, 0), (3, 0, 0), (0, 0, 0)], [(3, 0, 0), (3, 0, 0), (0, 0, 0), (0, 0, 0), (0, 0, 0), (0, 0, 0), (0, 0, 0), (0, 0, 0)], [(3, 0, 0), (3, 0, 0), (3, 0, 0), (0, 0, 0), (3, 0, 0), (0, 0, 0), (0, 0, 0), (3, 0, 0), (0, 0, 0), (0, 0, 0), (0, 0, 0), (3, 0, 0), (3, 0, 0), (0, 0, 0)], [(3, 0, 0), (0, 0, 0), (3, 0, 0), (3, 0, 0), (3, 0, 0), (3, 0, 0), (0, 0, 0), (3, 0, 0), (0, 0, 0), (3, 0, 0), (3, 0, 0), (3, 0, 0), (3, 0, 0), (3, 0, 0), (3, 0, 0)], [(0, 0, 0), (0, 0, 0), (0, 0, 0), (3, 0, 0), (3, 0, 0), (3, 0, 0)], [(0, 0, 0), (3, 0, 0), (0, 0, 0), (0, 0, 0), (0, 0, 0), (0, 0, 0), (4, 0, 0), (0, 0, 0)], [(0, 0, 0), (0, 0, 0), (0, 0, 0), (3, 0, 0), (3, 0, 0), (3, 0, 0), (0, 0, 0), (0, 0, 0), (0, 0, 0), (0, 0, 0), (3, 0, 0), (3, 0, 0), (3, 0, 0), (3, 0, 0), (3, 0, 0), (3, 0, 0), (3, 0, 0), (3, 0, 0)], [(3, 0, 0), (3, 0, 0), (3, 0, 0), (3, 0, 0), (3, 0, 0), (3, 0, 0), (3, 0, 0), (3, 0, 0), (3, 0, 0)], [(0, 0, 0), (3, 0, 0), (3, 0, 0), (3, 0, 0), (3, 0, 0), (3, 0, 0), (0, 0, 0), (3, 0, 0), (3, 0, 0), (3, 0, 0), (3, 0, 0), (0, 0, 0), (3, 0, 0), (0, 0, 0), (0, 0, 0), (3, 0, 0), (3, 0, 0), (3, 0, 0), (3, 0, 0), (3, 0, 0), (0, 0, 0), (0, 0, 0), (0, 0, 0), (0, 0, 0), (0, 0, 0), (3, 0, 0), (3, 0, 0), (0, 0, 0), (3, 0, 0), (3, 0, 0), (3, 0, 0), (3, 0, 0), (3, 0, 0), (3, 0, 0), (0, 0, 0), (0, 0, 0), (0, 0, 0), (0, 0, 0), (0, 0, 0), (0, 0, 0), (3, 0, 0), (0, 0, 0), (4, 0, 0), (3, 0, 0), (3, 0, 0), (3, 0, 0), (3, 0, 0), (3, 0, 0), (3, 0, 0), (3, 0, 0), (3, 0, 0), (3, 0, 0), (3, 0, 0), (3, 0, 0), (3, 0, 0), (3, 0, 0), (3, 0, 0), (0, 0, 0), (0, 0, 0), (0, 0, 0), (0, 0, 0), (0, 0, 0), (0, 0, 0), (0, 0, 0), (0, 0, 0), (0, 0, 0), (3, 0, 0), (3, 0, 0), (3, 0, 0), (3, 0, 0), (0, 0, 0), (0, 0, 0), (3, 0, 0), (3, 0, 0), (0, 0, 0), (3, 0, 0), (3, 0, 0), (3, 0, 0), (3, 0, 0), (3, 0, 0)]]
end
section
/-! THE ENGINE: an interpreter of the bytecode over number-coded values.
A value: (0, u, _) the int u (mod 2^32); (1, lo, hi) an int whose key (value + 2^31) lies in lo .. hi; (2, k, _) a reference to the k-th cell; (3, _, _) null; (4, u, _) the long u; (9, _, _) nothing. All that is kept is worked out first (the recursors and continuations force it), so that the kernel's terms stay small. -/
abbrev ev_V : Type := Nat × Nat × Nat
abbrev ev_C : Type := Nat × List ev_V
noncomputable def ev_T (α : Type) (n : Nat) : Type := Nat.rec (motive := fun _ => Type) α (fun _ T => T × T) n
noncomputable def ev_tget {α β : Type} (n : Nat) : ev_T α n → Nat → (α → β) → β :=
  Nat.rec (motive := fun n => ev_T α n → Nat → (α → β) → β) (fun t _ k => k t) (fun n ih t i k => Prod.rec (motive := fun _ => β) (fun (l : ev_T α n) (r : ev_T α n) => Bool.rec (motive := fun _ => β) (ih l (Nat.div i 2) k) (ih r (Nat.div i 2) k) (Nat.beq (Nat.mod i 2) 1)) (t : ev_T α n × ev_T α n)) n
noncomputable def ev_tset {α β : Type} (n : Nat) : ev_T α n → Nat → α → (ev_T α n → β) → β :=
  Nat.rec (motive := fun n => ev_T α n → Nat → α → (ev_T α n → β) → β) (fun _ _ v k => k v) (fun n ih t i v k => Prod.rec (motive := fun _ => β) (fun (l : ev_T α n) (r : ev_T α n) => Bool.rec (motive := fun _ => β) (ih l (Nat.div i 2) v (fun z => k ((z, r) : ev_T α n × ev_T α n))) (ih r (Nat.div i 2) v (fun z => k ((l, z) : ev_T α n × ev_T α n))) (Nat.beq (Nat.mod i 2) 1)) (t : ev_T α n × ev_T α n)) n
noncomputable def ev_tmk {α : Type} (n : Nat) : (Nat → α) → ev_T α n :=
  Nat.rec (motive := fun n => (Nat → α) → ev_T α n) (fun f => f 0) (fun n ih f => ((ih (fun i => f (2 * i)), ih (fun i => f (2 * i + 1))) : ev_T α n × ev_T α n)) n
abbrev ev_H : Type := ev_T ev_C 8
abbrev ev_R : Type := Option (ev_V × Nat × Nat × ev_H)
abbrev ev_S : Type := List ev_V → List ev_V → Nat → Nat → ev_H → ev_R
abbrev ev_Call : Type := Nat → List ev_V → Nat → Nat → ev_H → ev_R
abbrev ev_Op : Type := ev_Call → ev_S → (Nat → ev_S) → ev_S
abbrev ev_X : Type := Nat × ev_Op
-- forcing
noncomputable def ev_fN {α : Type} (n : Nat) (k : Nat → α) : α := Nat.rec (motive := fun _ => α) (k 0) (fun m _ => k (Nat.succ m)) n
theorem ev_fN_eq {α : Type} (n : Nat) (k : Nat → α) : ev_fN n k = k n := by cases n <;> rfl
noncomputable def ev_setK {β : Type} (l : List β) : Nat → β → (List β → ev_R) → ev_R :=
  List.rec (motive := fun _ => Nat → β → (List β → ev_R) → ev_R) (fun _ _ _ => none) (fun x xs ih n v k => Nat.rec (motive := fun _ => ev_R) (k (v :: xs)) (fun m _ => ih m v (fun ys => k (x :: ys))) n) l
noncomputable def ev_get {α : Type} (l : List α) : Nat → (α → ev_R) → ev_R :=
  List.rec (motive := fun _ => Nat → (α → ev_R) → ev_R) (fun _ _ => none) (fun x _ ih n k => Nat.rec (motive := fun _ => ev_R) (k x) (fun m _ => ih m k) n) l
noncomputable def ev_seek (l : List ev_X) (t : Nat) : List ev_X :=
  List.rec (motive := fun _ => List ev_X) [] (fun x xs ih => Bool.rec (motive := fun _ => List ev_X) ih (x :: xs) (Nat.beq x.1 t)) l
noncomputable def ev_if (b : Bool) (k : ev_R) : ev_R := Bool.rec (motive := fun _ => ev_R) none k b
noncomputable def ev_1 (st : List ev_V) (k : ev_V → List ev_V → ev_R) : ev_R := List.rec (motive := fun _ => ev_R) none (fun a r _ => k a r) st
noncomputable def ev_2 (st : List ev_V) (k : ev_V → ev_V → List ev_V → ev_R) : ev_R := ev_1 st fun a r => ev_1 r fun b r => k a b r
noncomputable def ev_3 (st : List ev_V) (k : ev_V → ev_V → ev_V → List ev_V → ev_R) : ev_R := ev_2 st fun a b r => ev_1 r fun c r => k a b c r
noncomputable def ev_0 (st : List ev_V) (k : ev_R) : ev_R := List.rec (motive := fun _ => ev_R) k (fun _ _ _ => none) st
/-- the three numbers of a value -/
noncomputable def ev_p (v : ev_V) (k : Nat → Nat → Nat → ev_R) : ev_R := Prod.rec (motive := fun _ => ev_R) (fun t q => Prod.rec (motive := fun _ => ev_R) (fun a b => k t a b) q) v
-- numbers: unsigned forms
def ev_u (x : Int32) : Nat := x.toUInt32.toNat
def ev_i (u : Nat) : Int32 := Int32.ofNat u
/-- two ints: exact if both are, else any int -/
noncomputable def ev_bin (o : Int32 → Int32 → Int32) (a b : ev_V) (k : ev_V → ev_R) : ev_R :=
  ev_p a fun t1 u1 _ => ev_p b fun t2 u2 _ => Bool.rec (motive := fun _ => ev_R) (ev_if (Nat.ble t1 1) (ev_if (Nat.ble t2 1) (k (1, 0, 4294967295)))) (ev_fN (ev_u (o (ev_i u1) (ev_i u2))) fun w => k (0, w, 0)) (Nat.beq (Nat.add t1 t2) 0)
noncomputable def ev_un (o : Int32 → Int32) (a : ev_V) (k : ev_V → ev_R) : ev_R :=
  ev_p a fun t1 u1 _ => Bool.rec (motive := fun _ => ev_R) (ev_if (Nat.ble t1 1) (k (1, 0, 4294967295))) (ev_fN (ev_u (o (ev_i u1))) fun w => k (0, w, 0)) (Nat.beq t1 0)
/-- the range of an int's keys -/
noncomputable def ev_rng (a : ev_V) (k : Nat → Nat → ev_R) : ev_R :=
  ev_p a fun t u w => Bool.rec (motive := fun _ => ev_R) (ev_if (Nat.beq t 1) (k u w)) (ev_fN (Nat.mod (Nat.add u 2147483648) 4294967296) fun z => k z z) (Nat.beq t 0)
noncomputable def ev_lt (a b c d : Nat) (yes no : ev_R) : ev_R := Bool.rec (motive := fun _ => ev_R) (ev_if (Nat.ble d a) no) yes (Nat.blt b c)
noncomputable def ev_eq (a b c d : Nat) (yes no : ev_R) : ev_R := Bool.rec (motive := fun _ => ev_R) (Bool.rec (motive := fun _ => ev_R) (ev_if (Nat.beq a b) (ev_if (Nat.beq c d) (ev_if (Nat.beq a c) yes))) no (Nat.blt d a)) no (Nat.blt b c)
noncomputable def ev_cmp (c : ClassFile.Cond) (a b d e : Nat) (yes no : ev_R) : ev_R := match c with
  | .eq => ev_eq a b d e yes no
  | .ne => ev_eq a b d e no yes
  | .lt => ev_lt a b d e yes no
  | .ge => ev_lt a b d e no yes
  | .gt => ev_lt d e a b yes no
  | .le => ev_lt d e a b no yes
def ev_ushr (x y : Int32) : Int32 := (x.toUInt32 >>> (y.toUInt32 &&& Int32.toUInt32 31)).toInt32
/-- does a value fit a field or an answer: kinds 0 int, 1 boolean, 2 reference, 3 long -/
def ev_kind (k : Nat) (t a b : Nat) : Bool := match k with
  | 0 => Nat.ble t 1
  | 1 => (Nat.beq t 0 && Nat.ble a 1) || (Nat.beq t 1 && (Nat.ble 2147483648 a && Nat.ble b 2147483649))
  | 2 => Nat.beq t 2 || Nat.beq t 3
  | _ => Nat.beq t 4
/-- the cell that a reference names -/
noncomputable def ev_cell (nc : Nat) (h : ev_H) (v : ev_V) (k : Nat → Nat → List ev_V → ev_R) : ev_R :=
  ev_p v fun t a _ => ev_if (Nat.beq t 2) (ev_if (Nat.blt a nc) (ev_tget 8 h a fun c => Prod.rec (motive := fun _ => ev_R) (fun tag l => k a tag l) c))
/-- an exact int below 65536 -/
noncomputable def ev_nat (v : ev_V) (k : Nat → ev_R) : ev_R := ev_p v fun t a _ => ev_if (Nat.beq t 0) (ev_if (Nat.blt a 65536) (k a))
noncomputable def ev_put (h : ev_H) (a tag : Nat) (l : List ev_V) (j : Nat) (v : ev_V) (k : ev_H → ev_R) : ev_R :=
  ev_setK l j v fun l' => ev_tset 8 h a (tag, l') k
noncomputable def ev_cut (n : Nat) : List ev_V → List ev_V → (List ev_V → List ev_V → ev_R) → ev_R :=
  Nat.rec (motive := fun _ => List ev_V → List ev_V → (List ev_V → List ev_V → ev_R) → ev_R) (fun acc st k => k acc st) (fun _ ih acc st k => ev_1 st fun v r => ih (v :: acc) r k) n
noncomputable def ev_pad (n : Nat) : List ev_V → (List ev_V → ev_R) → ev_R :=
  Nat.rec (motive := fun _ => List ev_V → (List ev_V → ev_R) → ev_R) (fun l k => List.rec (motive := fun _ => ev_R) (k []) (fun _ _ _ => none) l) (fun _ ih l k => List.rec (motive := fun _ => ev_R) (ih [] fun ys => k ((9, 0, 0) :: ys)) (fun x xs _ => ev_p x fun t _ _ => ev_if (Nat.ble t 3) (ih xs fun ys => k (x :: ys))) l) n
noncomputable def ev_ok (r : ev_R) (k : ev_V → Nat → Nat → ev_H → ev_R) : ev_R := Option.rec (motive := fun _ => ev_R) none (fun q => Prod.rec (motive := fun _ => ev_R) (fun v q => Prod.rec (motive := fun _ => ev_R) (fun ns q => Prod.rec (motive := fun _ => ev_R) (fun nc h => k v ns nc h) q) q) q) r
/-- a short stack of values of one word each -/
noncomputable def ev_one (r : List ev_V) : Bool := List.rec (motive := fun _ => Bool) true (fun v _ ih => Prod.rec (motive := fun _ => Bool) (fun t _ => Bool.rec (motive := fun _ => Bool) false ih (Nat.ble t 3)) v) r
noncomputable def ev_small (r : List ev_V) : Bool := Bool.rec (motive := fun _ => Bool) false (ev_one r) (Nat.ble r.length 8)
-- the instructions
abbrev ev_P1 (α : Type) : Type := α × α
abbrev ev_P8 (α : Type) : Type := ev_P1 (ev_P1 (ev_P1 (ev_P1 (ev_P1 (ev_P1 (ev_P1 (ev_P1 α)))))))
def eb_add (x y : Int32) : Int32 := x + y
def eb_sub (x y : Int32) : Int32 := x - y
def eb_mul (x y : Int32) : Int32 := x * y
def eb_and (x y : Int32) : Int32 := x &&& y
def eb_or (x y : Int32) : Int32 := x ||| y
def eb_xor (x y : Int32) : Int32 := x ^^^ y
def eb_shl (x y : Int32) : Int32 := x <<< (y &&& 31)
def eb_shr (x y : Int32) : Int32 := x >>> (y &&& 31)
def eb_div (x y : Int32) : Int32 := x / y
def eb_rem (x y : Int32) : Int32 := x - x / y * y
def eb_neg (x : Int32) : Int32 := -x
def eb_i2b (x : Int32) : Int32 := x.toInt8.toInt32
noncomputable def eo_push (v : ev_V) : ev_Op := fun _ Kn _ al st ns nc h => Kn al (v :: st) ns nc h
noncomputable def eo_iload (i : Nat) : ev_Op := fun _ Kn _ al st ns nc h => ev_get al i fun v => ev_p v fun t _ _ => ev_if (Nat.ble t 1) (Kn al (v :: st) ns nc h)
noncomputable def eo_aload (i : Nat) : ev_Op := fun _ Kn _ al st ns nc h => ev_get al i fun v => ev_p v fun t _ _ => ev_if (Nat.beq t 2) (Kn al (v :: st) ns nc h)
noncomputable def eo_istore (i : Nat) : ev_Op := fun _ Kn _ al st ns nc h => ev_1 st fun v r => ev_p v fun t _ _ => ev_if (Nat.ble t 1) (ev_setK al i v fun al' => Kn al' r ns nc h)
noncomputable def eo_astore (i : Nat) : ev_Op := fun _ Kn _ al st ns nc h => ev_1 st fun v r => ev_p v fun t _ _ => ev_if (Nat.beq t 2) (ev_setK al i v fun al' => Kn al' r ns nc h)
noncomputable def eo_iinc (i n : Nat) : ev_Op := fun _ Kn _ al st ns nc h => ev_get al i fun v => ev_bin eb_add v (0, n, 0) fun w => ev_setK al i w fun al' => Kn al' st ns nc h
noncomputable def eo_bin (o : Int32 → Int32 → Int32) : ev_Op := fun _ Kn _ al st ns nc h => ev_2 st fun b a r => ev_bin o a b fun w => Kn al (w :: r) ns nc h
def eb_min (x y : Int32) : Int32 := if y < x then y else x
noncomputable def eo_min : ev_Op := fun _ Kn _ al st ns nc h => ev_2 st fun b a r => ev_if (ev_small r) (ev_bin eb_min a b fun w => Kn al (w :: r) ns nc h)
noncomputable def eo_div (o : Int32 → Int32 → Int32) : ev_Op := fun _ Kn _ al st ns nc h => ev_2 st fun b a r => ev_nat b fun n => ev_if (Nat.blt 0 n) (ev_bin o a b fun w => Kn al (w :: r) ns nc h)
noncomputable def eo_un (o : Int32 → Int32) : ev_Op := fun _ Kn _ al st ns nc h => ev_1 st fun a r => ev_un o a fun w => Kn al (w :: r) ns nc h
noncomputable def eo_dup : ev_Op := fun _ Kn _ al st ns nc h => ev_1 st fun a r => ev_p a fun t _ _ => ev_if (Nat.ble t 3) (Kn al (a :: a :: r) ns nc h)
noncomputable def eo_dup2 : ev_Op := fun _ Kn _ al st ns nc h => ev_2 st fun a b r => ev_p a fun t _ _ => ev_p b fun t2 _ _ => ev_if (Nat.ble t 3) (ev_if (Nat.ble t2 3) (Kn al (a :: b :: a :: b :: r) ns nc h))
noncomputable def eo_pop : ev_Op := fun _ Kn _ al st ns nc h => ev_1 st fun a r => ev_p a fun t _ _ => ev_if (Nat.ble t 3) (Kn al r ns nc h)
noncomputable def eo_ifc (c : ClassFile.Cond) (t : Nat) : ev_Op := fun _ Kn Kj al st ns nc h => ev_1 st fun a r => ev_rng a fun x y => ev_cmp c x y 2147483648 2147483648 (Kj t al r ns nc h) (Kn al r ns nc h)
noncomputable def eo_icmp (c : ClassFile.Cond) (t : Nat) : ev_Op := fun _ Kn Kj al st ns nc h => ev_2 st fun b a r => ev_rng a fun x y => ev_rng b fun z w => ev_cmp c x y z w (Kj t al r ns nc h) (Kn al r ns nc h)
noncomputable def eo_goto (t : Nat) : ev_Op := fun _ _ Kj al st ns nc h => Kj t al st ns nc h
/-- a table of targets by keys from lo on; the last number is the default -/
noncomputable def eo_tab (lo : Nat) (ts : List Nat) (d : Nat) : ev_Op := fun _ _ Kj al st ns nc h => ev_1 st fun a r => ev_rng a fun x y =>
  Bool.rec (motive := fun _ => ev_R) (Bool.rec (motive := fun _ => ev_R) (ev_if (Nat.beq x y) (ev_get ts (Nat.sub x lo) fun t => Kj t al r ns nc h)) (Kj d al r ns nc h) (Nat.ble (Nat.add lo ts.length) x)) (Kj d al r ns nc h) (Nat.blt y lo)
noncomputable def eo_getf (ci k : Nat) : ev_Op := fun _ Kn _ al st ns nc h => ev_1 st fun o r => ev_cell nc h o fun _ tag l => ev_if (Nat.beq tag ci) (ev_get l k fun v => Kn al (v :: r) ns nc h)
noncomputable def eo_putf (ci k kd : Nat) : ev_Op := fun _ Kn _ al st ns nc h => ev_2 st fun v o r => ev_cell nc h o fun a tag l => ev_if (Nat.beq tag ci) (ev_p v fun t x y => ev_if (ev_kind kd t x y) (ev_put h a tag l k v fun h' => Kn al r ns nc h'))
noncomputable def eo_ald (lo hi : Nat) : ev_Op := fun _ Kn _ al st ns nc h => ev_2 st fun i o r => ev_cell nc h o fun _ tag l => ev_if (Nat.ble lo tag) (ev_if (Nat.ble tag hi) (ev_nat i fun j => ev_get l j fun v => Kn al (v :: r) ns nc h))
noncomputable def eo_iast : ev_Op := fun _ Kn _ al st ns nc h => ev_3 st fun v i o r => ev_cell nc h o fun a tag l => ev_if (Nat.beq tag 50) (ev_p v fun t _ _ => ev_if (Nat.ble t 1) (ev_nat i fun j => ev_put h a tag l j v fun h' => Kn al r ns nc h'))
noncomputable def eo_bast : ev_Op := fun _ Kn _ al st ns nc h => ev_3 st fun v i o r => ev_cell nc h o fun a tag l => ev_nat i fun j =>
  Bool.rec (motive := fun _ => ev_R) (ev_if (Nat.beq tag 52) (ev_un (vp_nar .boolean) v fun w => ev_put h a tag l j w fun h' => Kn al r ns nc h')) (ev_un (vp_nar .byte) v fun w => ev_put h a tag l j w fun h' => Kn al r ns nc h') (Nat.beq tag 51)
noncomputable def eo_alen : ev_Op := fun _ Kn _ al st ns nc h => ev_1 st fun o r => ev_cell nc h o fun _ tag l => ev_if (Nat.ble 50 tag) (ev_if (Nat.ble tag 53) (ev_fN l.length fun n => ev_if (Nat.blt n 65536) (Kn al ((0, n, 0) :: r) ns nc h)))
noncomputable def ev_fill (n : Nat) (v : ev_V) : (List ev_V → ev_R) → ev_R := Nat.rec (motive := fun _ => (List ev_V → ev_R) → ev_R) (fun k => k []) (fun _ ih k => ih fun l => k (v :: l)) n
noncomputable def ev_new (tag : Nat) (l : List ev_V) (n : Nat) : ev_S → ev_S := fun Kn al st ns nc h => ev_if (Nat.blt nc 256) (ev_fN (Nat.add ns n) fun ns' => ev_fN (Nat.succ nc) fun nc' => ev_tset 8 h nc (tag, l) fun h' => Kn al ((2, nc, 0) :: st) ns' nc' h')
noncomputable def eo_newa (tag : Nat) (v : ev_V) : ev_Op := fun _ Kn _ al st ns nc h => ev_1 st fun n r => ev_nat n fun j => ev_fill j v fun l => ev_new tag l j Kn al r ns nc h
noncomputable def eo_new (ci : Nat) (fs : List ev_V) (n : Nat) : ev_Op := fun _ Kn _ al st ns nc h => ev_new ci fs n Kn al st ns nc h
noncomputable def eo_obj : ev_Op := fun _ Kn _ al st ns nc h => ev_1 st fun o r => ev_p o fun t _ _ => ev_if (Nat.beq t 2) (ev_if (ev_small r) (Kn al r ns nc h))
noncomputable def ev_back (v : ev_V) (Kn : ev_S) : ev_S := fun al r ns nc h => ev_p v fun t _ _ => Bool.rec (motive := fun _ => ev_R) (Kn al (v :: r) ns nc h) (Kn al r ns nc h) (Nat.beq t 9)
noncomputable def eo_spec (k n : Nat) : ev_Op := fun call Kn _ al st ns nc h => ev_cut n [] st fun as q => ev_1 q fun o r => ev_p o fun t _ _ => ev_if (Nat.beq t 2) (ev_if (ev_small r) (ev_ok (call k (o :: as) ns nc h) fun v ns nc h => ev_p v fun t _ _ => ev_if (Nat.beq t 9) (Kn al r ns nc h)))
noncomputable def eo_virt (k n ci : Nat) : ev_Op := fun call Kn _ al st ns nc h => ev_cut n [] st fun as q => ev_1 q fun o r => ev_cell nc h o fun _ tag _ => ev_if (Nat.beq tag ci) (ev_if (ev_small r) (ev_ok (call k (o :: as) ns nc h) fun v ns nc h => ev_back v Kn al r ns nc h))
noncomputable def eo_stat (k n : Nat) : ev_Op := fun call Kn _ al st ns nc h => ev_cut n [] st fun as r => ev_if (ev_small r) (ev_ok (call k as ns nc h) fun v ns nc h => ev_back v Kn al r ns nc h)
noncomputable def ev_cpy (n : Nat) : List ev_V → List ev_V → Nat → (List ev_V → ev_R) → ev_R :=
  Nat.rec (motive := fun _ => List ev_V → List ev_V → Nat → (List ev_V → ev_R) → ev_R) (fun _ g _ k => k g) (fun _ ih f g j k => ev_1 f fun v f' => ev_setK g j v fun g' => ih f' g' (Nat.succ j) k) n
noncomputable def ev_drop (n : Nat) : List ev_V → (List ev_V → ev_R) → ev_R :=
  Nat.rec (motive := fun _ => List ev_V → (List ev_V → ev_R) → ev_R) (fun f k => k f) (fun _ ih f k => ev_1 f fun _ f' => ih f' k) n
noncomputable def eo_copy : ev_Op := fun _ Kn _ al st ns nc h => ev_3 st fun n dp d r => ev_2 r fun sp o r => ev_if (ev_small r) (ev_cell nc h o fun a0 tag0 f => ev_cell nc h d fun a1 tag1 g => ev_if (Nat.beq tag0 50) (ev_if (Nat.beq tag1 50) (ev_if (!(Nat.beq a0 a1)) (ev_nat sp fun s => ev_nat dp fun t => ev_nat n fun k => ev_if (Nat.blt 0 k) (ev_drop s f fun f' => ev_cpy k f' g t fun g' => ev_tset 8 h a1 (50, g') fun h' => Kn al r ns nc h')))))
noncomputable def eo_iret (kd : Nat) : ev_Op := fun _ _ _ _ st ns nc h => ev_1 st fun v r => ev_p v fun t x y => ev_if (ev_kind kd t x y) (ev_0 r (some (v, ns, nc, h)))
noncomputable def eo_vret : ev_Op := fun _ _ _ _ st ns nc h => ev_0 st (some ((9, 0, 0), ns, nc, h))
noncomputable def eo_none : ev_Op := fun _ _ _ _ _ _ _ _ => none
noncomputable def ev_run (call : ev_Call) (code : List ev_X) (n : Nat) : List ev_X → ev_S :=
  Nat.rec (motive := fun _ => List ev_X → ev_S) (fun _ _ _ _ _ _ => none) (fun _ ih cs => List.rec (motive := fun _ => ev_S) (fun _ _ _ _ _ => none) (fun x rest _ => x.2 call (ih rest) (fun t => ih (ev_seek code t))) cs) n
noncomputable def ev_exec (XT : ev_T (Nat × List ev_X) 8) (fuel : Nat) (d : Nat) : ev_Call :=
  Nat.rec (motive := fun _ => ev_Call) (fun _ _ _ _ _ => none) (fun _ ih k args ns nc h => ev_tget 8 XT k fun M => Prod.rec (motive := fun _ => ev_R) (fun n code => ev_pad n args fun al => ev_ok (ev_run ih code fuel code al [] ns nc h) fun v ns' nc' h' => ev_if (Nat.ble nc nc') (ev_if (Nat.ble ns ns') (some (v, ns', nc', h')))) M) d
end
section
/-! WHAT THE ENGINE'S VALUES MEAN -/
def ev_key (x : Int32) : Nat := (x.toInt + 2147483648).toNat
theorem ev_key_int (x : Int32) : (ev_key x : Int) = x.toInt + 2147483648 := by
  have h1 := Int32.le_toInt x
  unfold ev_key
  omega
theorem ev_key_lt (x : Int32) : ev_key x ≤ 4294967295 := by
  have h2 := Int32.toInt_lt x
  have := ev_key_int x
  omega
theorem ev_key_of (u : Nat) : ev_key (ev_i u) = (u + 2147483648) % 4294967296 := by
  have h : (ev_i u).toInt = ((u : Int)).bmod 4294967296 := by
    show (Int32.ofNat u).toInt = _
    rw [Int32.toInt_ofNat']
  have h2 := ev_key_int (ev_i u)
  rw [h, Int.bmod_def] at h2
  split at h2 <;> omega
theorem ev_iu (x : Int32) : ev_i (ev_u x) = x := by
  unfold ev_i ev_u
  exact Int32.toInt_inj.mp (by
    rw [Int32.toInt_ofNat']
    have h : (x.toUInt32.toNat : Int) = x.toBitVec.toNat := by rfl
    rw [h]
    show _ = x.toBitVec.toInt
    rw [BitVec.toInt_eq_toNat_bmod])
theorem ev_key_ltI {x y : Int32} : x < y ↔ ev_key x < ev_key y := by
  rw [Int32.lt_iff_toInt_lt]
  have := ev_key_int x
  have := ev_key_int y
  omega
theorem ev_key_leI {x y : Int32} : x ≤ y ↔ ev_key x ≤ ev_key y := by
  rw [Int32.le_iff_toInt_le]
  have := ev_key_int x
  have := ev_key_int y
  omega
theorem ev_key_eqI {x y : Int32} : x = y ↔ ev_key x = ev_key y := by
  rw [← Int32.toInt_inj]
  have := ev_key_int x
  have := ev_key_int y
  omega
theorem ev_key_0 : ev_key 0 = 2147483648 := by decide +kernel
def ev_rel (ads : List Nat) (v : ev_V) (w : Value) : Prop :=
  (v.1 = 0 ∧ w = .int (ev_i v.2.1)) ∨ (v.1 = 1 ∧ ∃ x : Int32, w = .int x ∧ v.2.1 ≤ ev_key x ∧ ev_key x ≤ v.2.2) ∨ (v.1 = 2 ∧ ∃ a, ads[v.2.1]? = some a ∧ w = .ref a) ∨ (v.1 = 3 ∧ w = .null) ∨ (v.1 = 4 ∧ w = .long (Int64.ofNat v.2.1))
theorem ev_rel.int {ads : List Nat} {t a b : Nat} {w : Value} (h : ev_rel ads (t, a, b) w) (ht : t ≤ 1) : ∃ x : Int32, w = .int x ∧ (t = 0 → x = ev_i a) ∧ (t = 1 → a ≤ ev_key x ∧ ev_key x ≤ b) := by
  rcases h with ⟨h0, h1⟩ | ⟨h0, x, h1, h2⟩ | ⟨h0, h1⟩ | ⟨h0, h1⟩ | ⟨h0, h1⟩
  · exact ⟨_, h1, fun _ => rfl, fun h => absurd (h0.symm.trans h) (by decide)⟩
  · exact ⟨x, h1, fun h => absurd (h0.symm.trans h) (by decide), fun _ => h2⟩
  · exact absurd (show t = 2 from h0) (by omega)
  · exact absurd (show t = 3 from h0) (by omega)
  · exact absurd (show t = 4 from h0) (by omega)
theorem ev_rel.ref {ads : List Nat} {t a b : Nat} {w : Value} (h : ev_rel ads (t, a, b) w) (ht : t = 2) : ∃ q, ads[a]? = some q ∧ w = .ref q := by
  subst ht
  rcases h with ⟨h0, h1⟩ | ⟨h0, h1⟩ | ⟨h0, h1⟩ | ⟨h0, h1⟩ | ⟨h0, h1⟩
  · exact absurd (show (2 : Nat) = 0 from h0) (by decide)
  · exact absurd (show (2 : Nat) = 1 from h0) (by decide)
  · exact h1
  · exact absurd (show (2 : Nat) = 3 from h0) (by decide)
  · exact absurd (show (2 : Nat) = 4 from h0) (by decide)
theorem ev_rel.cat {ads : List Nat} {v : ev_V} {w : Value} (h : ev_rel ads v w) (ht : v.1 ≤ 3) : w.category = 1 := by
  rcases h with ⟨h0, h1⟩ | ⟨h0, x, h1, -⟩ | ⟨h0, q, -, h1⟩ | ⟨h0, h1⟩ | ⟨h0, h1⟩
  · rw [h1]; rfl
  · rw [h1]; rfl
  · rw [h1]; rfl
  · rw [h1]; rfl
  · omega
theorem ev_rel.mono {ads ads' : List Nat} {v : ev_V} {w : Value} (h : ev_rel ads v w) (hp : ∃ x, ads' = ads ++ x) : ev_rel ads' v w := by
  obtain ⟨x, rfl⟩ := hp
  rcases h with h | h | ⟨h0, q, h1, h2⟩ | h | h
  · exact Or.inl h
  · exact Or.inr (Or.inl h)
  · exact Or.inr (Or.inr (Or.inl ⟨h0, q, by rw [List.getElem?_append_left (List.getElem?_eq_some_iff.mp h1).1]; exact h1, h2⟩))
  · exact Or.inr (Or.inr (Or.inr (Or.inl h)))
  · exact Or.inr (Or.inr (Or.inr (Or.inr h)))
theorem ev_rel.top (ads : List Nat) (x : Int32) : ev_rel ads (1, 0, 4294967295) (.int x) := Or.inr (Or.inl ⟨rfl, x, rfl, Nat.zero_le _, ev_key_lt x⟩)
theorem ev_rel.ex (ads : List Nat) (x : Int32) (b : Nat) : ev_rel ads (0, ev_u x, b) (.int x) := Or.inl ⟨rfl, by rw [ev_iu]⟩
theorem ev_rel.of (ads : List Nat) (u b : Nat) : ev_rel ads (0, u, b) (.int (ev_i u)) := Or.inl ⟨rfl, rfl⟩
theorem ev_rel.at {ads : List Nat} {k a : Nat} (b : Nat) (h : ads[k]? = some a) : ev_rel ads (2, k, b) (.ref a) := Or.inr (Or.inr (Or.inl ⟨rfl, a, h, rfl⟩))
def ev_relS (ads : List Nat) : List ev_V → List Value → Prop
  | [], [] => True
  | v :: st, w :: ws => ev_rel ads v w ∧ ev_relS ads st ws
  | _, _ => False
theorem ev_relS.cons {ads : List Nat} {v : ev_V} {st : List ev_V} {vs : List Value} (h : ev_relS ads (v :: st) vs) : ∃ w ws, vs = w :: ws ∧ ev_rel ads v w ∧ ev_relS ads st ws := by
  cases vs with
  | nil => exact absurd h id
  | cons w ws => exact ⟨w, ws, rfl, h.1, h.2⟩
theorem ev_relS.nil {ads : List Nat} {vs : List Value} (h : ev_relS ads [] vs) : vs = [] := by
  cases vs with
  | nil => rfl
  | cons w ws => exact absurd h id
theorem ev_relS.mono {ads ads' : List Nat} (hp : ∃ x, ads' = ads ++ x) : ∀ {st : List ev_V} {vs : List Value}, ev_relS ads st vs → ev_relS ads' st vs := by
  intro st
  induction st with
  | nil => intro vs h; rw [h.nil]; exact trivial
  | cons v st ih =>
    intro vs h
    obtain ⟨w, ws, rfl, h1, h2⟩ := h.cons
    exact ⟨h1.mono hp, ih h2⟩
theorem ev_relS.len {ads : List Nat} : ∀ {st : List ev_V} {vs : List Value}, ev_relS ads st vs → vs.length = st.length := by
  intro st
  induction st with
  | nil => intro vs h; rw [h.nil]; rfl
  | cons v st ih =>
    intro vs h
    obtain ⟨w, ws, rfl, h1, h2⟩ := h.cons
    simp [ih h2]
theorem ev_relS.append {ads : List Nat} : ∀ {st st2 : List ev_V} {vs vs2 : List Value}, ev_relS ads st vs → ev_relS ads st2 vs2 → ev_relS ads (st ++ st2) (vs ++ vs2) := by
  intro st
  induction st with
  | nil => intro st2 vs vs2 h h2; rw [h.nil]; exact h2
  | cons v st ih =>
    intro st2 vs vs2 h hh
    obtain ⟨w, ws, rfl, h1, h2⟩ := h.cons
    exact ⟨h1, ih h2 hh⟩
-- trees
theorem ev_tget_k {α β : Type} (n : Nat) : ∀ (t : ev_T α n) (i : Nat) (k : α → β), ev_tget n t i k = k (ev_tget n t i id) := by
  induction n with
  | zero => intro t i k; rfl
  | succ n ih =>
    intro t i k
    obtain ⟨l, r, rfl⟩ : ∃ (l r : ev_T α n), t = (show ev_T α (n + 1) from ((l, r) : ev_T α n × ev_T α n)) := ⟨(show ev_T α n × ev_T α n from t).1, (show ev_T α n × ev_T α n from t).2, rfl⟩
    show Bool.rec (motive := fun _ => β) (ev_tget n l (Nat.div i 2) k) (ev_tget n r (Nat.div i 2) k) (Nat.beq (Nat.mod i 2) 1) = k (Bool.rec (motive := fun _ => α) (ev_tget n l (Nat.div i 2) id) (ev_tget n r (Nat.div i 2) id) (Nat.beq (Nat.mod i 2) 1))
    cases Nat.beq (Nat.mod i 2) 1
    · exact ih l _ k
    · exact ih r _ k
theorem ev_tset_k {α : Type} (n : Nat) : ∀ {β : Type} (t : ev_T α n) (i : Nat) (v : α) (k : ev_T α n → β), ev_tset n t i v k = k (ev_tset n t i v id) := by
  induction n with
  | zero => intro β t i v k; rfl
  | succ n ih =>
    intro β t i v k
    obtain ⟨l, r, rfl⟩ : ∃ (l r : ev_T α n), t = (show ev_T α (n + 1) from ((l, r) : ev_T α n × ev_T α n)) := ⟨(show ev_T α n × ev_T α n from t).1, (show ev_T α n × ev_T α n from t).2, rfl⟩
    show Bool.rec (motive := fun _ => β) (ev_tset n l (Nat.div i 2) v (fun z => k ((z, r) : ev_T α n × ev_T α n))) (ev_tset n r (Nat.div i 2) v (fun z => k ((l, z) : ev_T α n × ev_T α n))) (Nat.beq (Nat.mod i 2) 1) = k (Bool.rec (motive := fun _ => ev_T α (n + 1)) (ev_tset n l (Nat.div i 2) v (fun z => ((z, r) : ev_T α n × ev_T α n))) (ev_tset n r (Nat.div i 2) v (fun z => ((l, z) : ev_T α n × ev_T α n))) (Nat.beq (Nat.mod i 2) 1))
    cases Nat.beq (Nat.mod i 2) 1
    · show ev_tset n l (Nat.div i 2) v (fun z => k ((z, r) : ev_T α n × ev_T α n)) = k (ev_tset n l (Nat.div i 2) v (fun z => ((z, r) : ev_T α n × ev_T α n)))
      exact (ih l _ v (fun z => k ((z, r) : ev_T α n × ev_T α n))).trans (congrArg k (ih (β := ev_T α (n + 1)) l _ v (fun z => ((z, r) : ev_T α n × ev_T α n))).symm)
    · show ev_tset n r (Nat.div i 2) v (fun z => k ((l, z) : ev_T α n × ev_T α n)) = k (ev_tset n r (Nat.div i 2) v (fun z => ((l, z) : ev_T α n × ev_T α n)))
      exact (ih r _ v (fun z => k ((l, z) : ev_T α n × ev_T α n))).trans (congrArg k (ih (β := ev_T α (n + 1)) r _ v (fun z => ((l, z) : ev_T α n × ev_T α n))).symm)
noncomputable def ev_hg (h : ev_H) (k : Nat) : ev_C := ev_tget 8 h k id
noncomputable def ev_hs (h : ev_H) (k : Nat) (c : ev_C) : ev_H := ev_tset 8 h k c id
theorem ev_tgs {α : Type} (n : Nat) : ∀ (t : ev_T α n) (i j : Nat) (v : α), i < 2 ^ n → j < 2 ^ n → ev_tget n (ev_tset n t i v id) j id = if j = i then v else ev_tget n t j id := by
  induction n with
  | zero =>
    intro t i j v hi hj
    have h1 : i = 0 := by simpa using hi
    have h2 : j = 0 := by simpa using hj
    subst h1; subst h2
    rfl
  | succ n ih =>
    intro t i j v hi hj
    obtain ⟨l, r, rfl⟩ : ∃ (l r : ev_T α n), t = (show ev_T α (n + 1) from ((l, r) : ev_T α n × ev_T α n)) := ⟨(show ev_T α n × ev_T α n from t).1, (show ev_T α n × ev_T α n from t).2, rfl⟩
    have hi2 : Nat.div i 2 < 2 ^ n := by show i / 2 < _; rw [Nat.pow_succ] at hi; omega
    have hj2 : Nat.div j 2 < 2 ^ n := by show j / 2 < _; rw [Nat.pow_succ] at hj; omega
    have hb : ∀ q : Nat, (Nat.beq (Nat.mod q 2) 1 = true ∧ q % 2 = 1) ∨ (Nat.beq (Nat.mod q 2) 1 = false ∧ q % 2 = 0) := by
      intro q
      rcases Nat.mod_two_eq_zero_or_one q with h | h
      · exact Or.inr ⟨by show Nat.beq (q % 2) 1 = false; rw [h]; rfl, h⟩
      · exact Or.inl ⟨by show Nat.beq (q % 2) 1 = true; rw [h]; rfl, h⟩
    have eS : ev_tset (n + 1) ((l, r) : ev_T α n × ev_T α n) i v id = Bool.rec (motive := fun _ => ev_T α n × ev_T α n) (ev_tset n l (Nat.div i 2) v id, r) (l, ev_tset n r (Nat.div i 2) v id) (Nat.beq (Nat.mod i 2) 1) := by
      show Bool.rec (motive := fun _ => ev_T α n × ev_T α n) (ev_tset n l (Nat.div i 2) v (fun z => ((z, r) : ev_T α n × ev_T α n))) (ev_tset n r (Nat.div i 2) v (fun z => ((l, z) : ev_T α n × ev_T α n))) (Nat.beq (Nat.mod i 2) 1) = _
      rw [ev_tset_k n l, ev_tset_k n r]
    have eG : ∀ (a b : ev_T α n), ev_tget (β := α) (n + 1) ((a, b) : ev_T α n × ev_T α n) j id = Bool.rec (motive := fun _ => α) (ev_tget n a (Nat.div j 2) id) (ev_tget n b (Nat.div j 2) id) (Nat.beq (Nat.mod j 2) 1) := fun a b => rfl
    show ev_tget (β := α) (n + 1) (ev_tset (n + 1) ((l, r) : ev_T α n × ev_T α n) i v id) j id = if j = i then v else ev_tget (β := α) (n + 1) ((l, r) : ev_T α n × ev_T α n) j id
    rw [eS, eG l r]
    rcases hb i with ⟨bi, mi⟩ | ⟨bi, mi⟩ <;> rcases hb j with ⟨bj, mj⟩ | ⟨bj, mj⟩ <;> rw [bi] <;> simp only [] <;> rw [eG, bj] <;> simp only []
    · rw [ih r _ _ v hi2 hj2]
      have : (Nat.div j 2 = Nat.div i 2) ↔ j = i := by show j / 2 = i / 2 ↔ _; omega
      simp only [this]
    · rw [if_neg (by omega)]
    · rw [if_neg (by omega)]
    · rw [ih l _ _ v hi2 hj2]
      have : (Nat.div j 2 = Nat.div i 2) ↔ j = i := by show j / 2 = i / 2 ↔ _; omega
      simp only [this]
theorem ev_hg_hs (h : ev_H) {i j : Nat} (c : ev_C) (hi : i < 256) (hj : j < 256) : ev_hg (ev_hs h i c) j = if j = i then c else ev_hg h j := ev_tgs 8 h i j c hi hj
-- the combinators, when they answer
theorem ev_if_some {b : Bool} {k : ev_R} {r} (h : ev_if b k = some r) : b = true ∧ k = some r := by
  cases b
  · exact absurd h (by simp [ev_if])
  · exact ⟨rfl, h⟩
theorem ev_1_some {st : List ev_V} {k} {r} (h : ev_1 st k = some r) : ∃ a s', st = a :: s' ∧ k a s' = some r := by
  cases st with
  | nil => exact absurd h (by simp [ev_1])
  | cons a s' => exact ⟨a, s', rfl, h⟩
theorem ev_0_some {st : List ev_V} {k} {r} (h : ev_0 st k = some r) : st = [] ∧ k = some r := by
  cases st with
  | nil => exact ⟨rfl, h⟩
  | cons a s' => exact absurd h (by simp [ev_0])
theorem ev_2_some {st : List ev_V} {k} {r} (h : ev_2 st k = some r) : ∃ a b s', st = a :: b :: s' ∧ k a b s' = some r := by
  obtain ⟨a, s1, e1, h1⟩ := ev_1_some h
  obtain ⟨b, s2, e2, h2⟩ := ev_1_some h1
  exact ⟨a, b, s2, by rw [e1, e2], h2⟩
theorem ev_3_some {st : List ev_V} {k} {r} (h : ev_3 st k = some r) : ∃ a b c s', st = a :: b :: c :: s' ∧ k a b c s' = some r := by
  obtain ⟨a, b, s1, e1, h1⟩ := ev_2_some h
  obtain ⟨c, s2, e2, h2⟩ := ev_1_some h1
  exact ⟨a, b, c, s2, by rw [e1, e2], h2⟩
theorem ev_get_some {α : Type} {l : List α} : ∀ {n : Nat} {k : α → ev_R} {r}, ev_get l n k = some r → ∃ a, l[n]? = some a ∧ k a = some r := by
  induction l with
  | nil => intro n k r h; exact absurd h (by simp [ev_get])
  | cons x xs ih =>
    intro n k r h
    cases n with
    | zero => exact ⟨x, rfl, h⟩
    | succ m =>
      obtain ⟨a, h1, h2⟩ := ih (n := m) (k := k) h
      exact ⟨a, by rw [List.getElem?_cons_succ]; exact h1, h2⟩
theorem ev_setK_some {β : Type} {l : List β} : ∀ {n : Nat} {v : β} {k : List β → ev_R} {r}, ev_setK l n v k = some r → n < l.length ∧ k (l.set n v) = some r := by
  induction l with
  | nil => intro n v k r h; exact absurd h (by simp [ev_setK])
  | cons x xs ih =>
    intro n v k r h
    cases n with
    | zero => exact ⟨by simp, h⟩
    | succ m =>
      obtain ⟨h1, h2⟩ := ih (n := m) (k := fun ys => k (x :: ys)) h
      exact ⟨by simpa using h1, h2⟩
theorem ev_cell_some {nc : Nat} {h : ev_H} {v : ev_V} {k} {r} (hh : ev_cell nc h v k = some r) : v.1 = 2 ∧ v.2.1 < nc ∧ k v.2.1 (ev_hg h v.2.1).1 (ev_hg h v.2.1).2 = some r := by
  obtain ⟨h1, hh⟩ := ev_if_some hh
  obtain ⟨h2, hh⟩ := ev_if_some hh
  rw [ev_tget_k] at hh
  exact ⟨Nat.eq_of_beq_eq_true h1, by simpa using h2, hh⟩
theorem ev_nat_some {v : ev_V} {k} {r} (hh : ev_nat v k = some r) : v.1 = 0 ∧ v.2.1 < 65536 ∧ k v.2.1 = some r := by
  obtain ⟨h1, hh⟩ := ev_if_some hh
  obtain ⟨h2, hh⟩ := ev_if_some hh
  exact ⟨Nat.eq_of_beq_eq_true h1, by simpa using h2, hh⟩
theorem ev_put_some {h : ev_H} {a tag : Nat} {l : List ev_V} {j : Nat} {v : ev_V} {k} {r} (hh : ev_put h a tag l j v k = some r) : j < l.length ∧ k (ev_hs h a (tag, l.set j v)) = some r := by
  obtain ⟨h1, hh⟩ := ev_setK_some hh
  rw [ev_tset_k] at hh
  exact ⟨h1, hh⟩
theorem ev_bin_some {o : Int32 → Int32 → Int32} {a b : ev_V} {k} {r} (hh : ev_bin o a b k = some r) : a.1 ≤ 1 ∧ b.1 ≤ 1 ∧ ∃ c, k c = some r ∧ ∀ (ads : List Nat) (x y : Int32), ev_rel ads a (.int x) → ev_rel ads b (.int y) → ev_rel ads c (.int (o x y)) := by
  obtain ⟨t1, u1, w1⟩ := a
  obtain ⟨t2, u2, w2⟩ := b
  unfold ev_bin ev_p at hh
  simp only [] at hh
  by_cases hz : Nat.beq (Nat.add t1 t2) 0 = true
  · rw [hz] at hh
    simp only [ev_fN_eq] at hh
    have hz' : t1 + t2 = 0 := Nat.eq_of_beq_eq_true hz
    refine ⟨by show t1 ≤ 1; omega, by show t2 ≤ 1; omega, _, hh, fun ads x y hx hy => ?_⟩
    obtain ⟨x', ex, h0, -⟩ := hx.int (by omega)
    obtain ⟨y', ey, g0, -⟩ := hy.int (by omega)
    cases ex; cases ey
    rw [h0 (by omega), g0 (by omega)]
    exact ev_rel.ex ads _ 0
  · rw [Bool.eq_false_iff.mpr hz] at hh
    simp only [] at hh
    obtain ⟨h1, hh⟩ := ev_if_some hh
    obtain ⟨h2, hh⟩ := ev_if_some hh
    exact ⟨by simpa using h1, by simpa using h2, _, hh, fun ads x y _ _ => ev_rel.top ads _⟩
theorem ev_un_some {o : Int32 → Int32} {a : ev_V} {k} {r} (hh : ev_un o a k = some r) : a.1 ≤ 1 ∧ ∃ c, c.1 ≤ 1 ∧ k c = some r ∧ ∀ (ads : List Nat) (x : Int32), ev_rel ads a (.int x) → ev_rel ads c (.int (o x)) := by
  obtain ⟨t1, u1, w1⟩ := a
  unfold ev_un ev_p at hh
  simp only [] at hh
  by_cases hz : Nat.beq t1 0 = true
  · rw [hz] at hh
    simp only [ev_fN_eq] at hh
    have hz' : t1 = 0 := Nat.eq_of_beq_eq_true hz
    refine ⟨by show t1 ≤ 1; omega, (0, ev_u (o (ev_i u1)), 0), Nat.zero_le 1, hh, fun ads x hx => ?_⟩
    obtain ⟨x', ex, h0, -⟩ := hx.int (by omega)
    cases ex
    rw [h0 (by omega)]
    exact ev_rel.ex ads _ 0
  · rw [Bool.eq_false_iff.mpr hz] at hh
    simp only [] at hh
    obtain ⟨h1, hh⟩ := ev_if_some hh
    exact ⟨by simpa using h1, (1, 0, 4294967295), Nat.le_refl 1, hh, fun ads x _ => ev_rel.top ads _⟩
theorem ev_rng_some {a : ev_V} {k} {r} (hh : ev_rng a k = some r) : a.1 ≤ 1 ∧ ∃ x y, k x y = some r ∧ ∀ (ads : List Nat) (z : Int32), ev_rel ads a (.int z) → x ≤ ev_key z ∧ ev_key z ≤ y := by
  obtain ⟨t1, u1, w1⟩ := a
  unfold ev_rng ev_p at hh
  simp only [] at hh
  by_cases hz : Nat.beq t1 0 = true
  · rw [hz] at hh
    simp only [ev_fN_eq] at hh
    have hz' : t1 = 0 := Nat.eq_of_beq_eq_true hz
    refine ⟨by show t1 ≤ 1; omega, _, _, hh, fun ads x hx => ?_⟩
    obtain ⟨x', ex, h0, -⟩ := hx.int (by omega)
    cases ex
    have e := ev_key_of u1
    rw [← h0 (by omega)] at e
    exact ⟨Nat.le_of_eq e.symm, Nat.le_of_eq e⟩
  · rw [Bool.eq_false_iff.mpr hz] at hh
    simp only [] at hh
    obtain ⟨h1, hh⟩ := ev_if_some hh
    have h1' : t1 = 1 := Nat.eq_of_beq_eq_true h1
    refine ⟨by show t1 ≤ 1; omega, _, _, hh, fun ads x hx => ?_⟩
    obtain ⟨x', ex, -, h0⟩ := hx.int (by omega)
    cases ex
    exact h0 h1'
theorem ev_lt_some {a b c d : Nat} {yes no : ev_R} {r} (h : ev_lt a b c d yes no = some r) : (b < c ∧ yes = some r) ∨ (d ≤ a ∧ no = some r) := by
  unfold ev_lt at h
  by_cases hz : Nat.blt b c = true
  · rw [hz] at h
    exact Or.inl ⟨by simpa using hz, h⟩
  · rw [Bool.eq_false_iff.mpr hz] at h
    obtain ⟨h1, h⟩ := ev_if_some h
    exact Or.inr ⟨by simpa using h1, h⟩
theorem ev_eq_some {a b c d : Nat} {yes no : ev_R} {r} (h : ev_eq a b c d yes no = some r) : (a = b ∧ c = d ∧ a = c ∧ yes = some r) ∨ ((b < c ∨ d < a) ∧ no = some r) := by
  unfold ev_eq at h
  by_cases hz : Nat.blt b c = true
  · rw [hz] at h
    exact Or.inr ⟨Or.inl (by simpa using hz), h⟩
  · rw [Bool.eq_false_iff.mpr hz] at h
    simp only [] at h
    by_cases hy : Nat.blt d a = true
    · rw [hy] at h
      exact Or.inr ⟨Or.inr (by simpa using hy), h⟩
    · rw [Bool.eq_false_iff.mpr hy] at h
      obtain ⟨h1, h⟩ := ev_if_some h
      obtain ⟨h2, h⟩ := ev_if_some h
      obtain ⟨h3, h⟩ := ev_if_some h
      exact Or.inl ⟨Nat.eq_of_beq_eq_true h1, Nat.eq_of_beq_eq_true h2, Nat.eq_of_beq_eq_true h3, h⟩
def ev_holds (c : ClassFile.Cond) (x y : Int32) : Prop := match c with
  | .eq => x = y
  | .ne => ¬ x = y
  | .lt => x < y
  | .ge => y ≤ x
  | .gt => y < x
  | .le => x ≤ y
theorem ev_cmp_some {c : ClassFile.Cond} {a b d e : Nat} {yes no : ev_R} {r} (h : ev_cmp c a b d e yes no = some r) {x y : Int32} (hx : a ≤ ev_key x ∧ ev_key x ≤ b) (hy : d ≤ ev_key y ∧ ev_key y ≤ e) : (ev_holds c x y ∧ yes = some r) ∨ (¬ ev_holds c x y ∧ no = some r) := by
  cases c <;> simp only [ev_cmp, ev_holds] at h ⊢
  · rcases ev_eq_some h with ⟨h1, h2, h3, h⟩ | ⟨h1, h⟩
    · exact Or.inl ⟨ev_key_eqI.mpr (by omega), h⟩
    · exact Or.inr ⟨fun z => by have := ev_key_eqI.mp z; omega, h⟩
  · rcases ev_eq_some h with ⟨h1, h2, h3, h⟩ | ⟨h1, h⟩
    · exact Or.inr ⟨fun z => z (ev_key_eqI.mpr (by omega)), h⟩
    · exact Or.inl ⟨fun z => by have := ev_key_eqI.mp z; omega, h⟩
  · rcases ev_lt_some h with ⟨h1, h⟩ | ⟨h1, h⟩
    · exact Or.inl ⟨ev_key_ltI.mpr (by omega), h⟩
    · exact Or.inr ⟨fun z => by have := ev_key_ltI.mp z; omega, h⟩
  · rcases ev_lt_some h with ⟨h1, h⟩ | ⟨h1, h⟩
    · exact Or.inr ⟨fun z => by have := ev_key_leI.mp z; omega, h⟩
    · exact Or.inl ⟨ev_key_leI.mpr (by omega), h⟩
  · rcases ev_lt_some h with ⟨h1, h⟩ | ⟨h1, h⟩
    · exact Or.inl ⟨ev_key_ltI.mpr (by omega), h⟩
    · exact Or.inr ⟨fun z => by have := ev_key_ltI.mp z; omega, h⟩
  · rcases ev_lt_some h with ⟨h1, h⟩ | ⟨h1, h⟩
    · exact Or.inr ⟨fun z => by have := ev_key_leI.mp z; omega, h⟩
    · exact Or.inl ⟨ev_key_leI.mpr (by omega), h⟩
end
section
/-! THE ENGINE IS SOUND: an operation that answers takes a good frame behind it to a good frame here -/
def en_WS : List Cond := lw_tbl.filter goodWord
/-- the words of nest mates: they are carried from call to call -/
def en_isN (w : Cond) : Bool := match w with
  | .fieldLinkNest .. => true
  | .methodLinkNest .. => true
  | _ => false
def en_NW : List Cond := lw_tbl.filter en_isN
def en_N (U : State) : Prop := ∀ w ∈ en_NW, va_Nw w U
theorem en_N.warm {s U : State} (hW : s.WarmedH U.vm) (h : en_N s) : en_N U := by
  intro w hw
  have h1 := h w hw
  have h2 := (List.mem_filter.mp hw).2
  cases w
  case fieldLinkNest => exact va_Nw.warmF hW h1
  case methodLinkNest => exact va_Nw.warmM hW h1
  all_goals exact absurd h2 (by simp [en_isN])
theorem en_N.same {s U : State} (hvm : s.vm = U.vm) (h : en_N s) : en_N U := by
  intro w hw
  have h1 := h w hw
  have h2 := (List.mem_filter.mp hw).2
  cases w
  case fieldLinkNest => exact va_Nw.same rfl hvm h1
  case methodLinkNest => exact va_Nw.same rfl hvm h1
  all_goals exact absurd h2 (by simp [en_isN])
def en_tys (cA : Nat → ClassId) : List (ClassId × FieldType) := [(cA 0, .int), (cA 1, .byte), (cA 2, .boolean), (cA 3, .long)]
def ev_relC (cA : Nat → ClassId) (ads : List Nat) (tag : Nat) (l : List ev_V) (e : va_E) : Prop :=
  (tag < 50 ∧ ∃ vs, e = .inr (tag, vs) ∧ vs.length = l.length ∧ ∀ (j : Nat) (v : ev_V), l[j]? = some v → ∃ w, vs[j]? = some w ∧ ev_rel ads v w) ∨
  (50 ≤ tag ∧ tag ≤ 52 ∧ ∃ f : Nat → Int32, e = .inl (cA (tag - 50), l.length, .inl f) ∧ ∀ (j : Nat) (v : ev_V), l[j]? = some v → ev_rel ads v (.int (f j))) ∨
  (tag = 53 ∧ ∃ f : Nat → Int64, e = .inl (cA 3, l.length, .inr (.inl f))) ∨ 54 ≤ tag
theorem ev_relC.mono {cA : Nat → ClassId} {ads ads' : List Nat} {tag : Nat} {l : List ev_V} {e : va_E} (h : ev_relC cA ads tag l e) (hp : ∃ x, ads' = ads ++ x) : ev_relC cA ads' tag l e := by
  rcases h with ⟨h0, vs, h1, h2, h3⟩ | ⟨h0, h1, f, h2, h3⟩ | h
  · exact Or.inl ⟨h0, vs, h1, h2, fun j v hj => by obtain ⟨w, q1, q2⟩ := h3 j v hj; exact ⟨w, q1, q2.mono hp⟩⟩
  · exact Or.inr (Or.inl ⟨h0, h1, f, h2, fun j v hj => (h3 j v hj).mono hp⟩)
  · exact Or.inr (Or.inr h)
def ev_wo (D : va_G) (cA : Nat → ClassId) (A : Nat → Prop) (ads : List Nat) (ws : va_W) (nc : Nat) (h : ev_H) (H : Heap) : Prop :=
  ws.map Prod.fst = ads ∧ ws.length = nc ∧ nc ≤ 256 ∧ (∀ k, k < nc → ∃ a e, ws[k]? = some (a, e) ∧ ev_relC cA ads (ev_hg h k).1 (ev_hg h k).2 e) ∧ va_P D en_classes ws H ∧ va_D A ws
theorem ev_wo.cell {D : va_G} {cA : Nat → ClassId} {A : Nat → Prop} {ads : List Nat} {ws : va_W} {nc : Nat} {h : ev_H} {H : Heap} (hw : ev_wo D cA A ads ws nc h H) {k q : Nat} (hk : k < nc) (hq : ads[k]? = some q) : ∃ e, ws[k]? = some (q, e) ∧ ev_relC cA ads (ev_hg h k).1 (ev_hg h k).2 e := by
  obtain ⟨a, e, h1, h2⟩ := hw.2.2.2.1 k hk
  have h3 : (ws.map Prod.fst)[k]? = some a := by rw [List.getElem?_map, h1]; rfl
  rw [hw.1, hq] at h3
  cases h3
  exact ⟨e, h1, h2⟩
theorem ev_wo.set {D : va_G} {cA : Nat → ClassId} {A : Nat → Prop} {ads : List Nat} {ws : va_W} {nc : Nat} {h : ev_H} {H H1 : Heap} (hw : ev_wo D cA A ads ws nc h H) {k q : Nat} {e e' : va_E} (hk : k < nc) (hq : ws[k]? = some (q, e)) (tag : Nat) (l : List ev_V) (hc : ev_relC cA ads tag l e') (hP : va_P D en_classes (ws.set k (q, e')) H1) (hD : va_D A (ws.set k (q, e'))) : ev_wo D cA A ads (ws.set k (q, e')) nc (ev_hs h k (tag, l)) H1 := by
  obtain ⟨h1, h2, h3, h4, -, -⟩ := hw
  have hl : k < ws.length := (List.getElem?_eq_some_iff.mp hq).1
  refine ⟨?_, by rw [List.length_set]; exact h2, h3, ?_, hP, hD⟩
  · rw [← h1]
    apply List.ext_getElem?
    intro i
    rw [List.getElem?_map, List.getElem?_map, List.getElem?_set]
    by_cases hi : k = i
    · subst hi
      rw [if_pos rfl, if_pos hl, hq]; rfl
    · rw [if_neg hi]
  · intro i hi
    rw [ev_hg_hs h _ (by omega) (by omega), List.getElem?_set]
    by_cases hik : i = k
    · subst hik
      rw [if_pos rfl, if_pos rfl, if_pos hl]
      exact ⟨q, e', rfl, hc⟩
    · rw [if_neg hik, if_neg (fun z => hik z.symm)]
      exact h4 i hi
theorem ev_wo.push {D : va_G} {cA : Nat → ClassId} {A : Nat → Prop} {ads : List Nat} {ws : va_W} {nc : Nat} {h : ev_H} {H H1 : Heap} (hw : ev_wo D cA A ads ws nc h H) {q : Nat} {e' : va_E} (hn : nc < 256) (tag : Nat) (l : List ev_V) (hc : ev_relC cA ads tag l e') (hP : va_P D en_classes (ws ++ [(q, e')]) H1) (hD : va_D A (ws ++ [(q, e')])) : ev_wo D cA A (ads ++ [q]) (ws ++ [(q, e')]) (nc + 1) (ev_hs h nc (tag, l)) H1 := by
  obtain ⟨h1, h2, h3, h4, -, -⟩ := hw
  refine ⟨by rw [List.map_append, h1]; rfl, by rw [List.length_append, h2]; rfl, hn, ?_, hP, hD⟩
  intro i hi
  rw [ev_hg_hs h _ hn (by omega)]
  by_cases hik : i = nc
  · subst hik
    rw [if_pos rfl]
    exact ⟨q, e', by rw [List.getElem?_append_right (by omega), h2, Nat.sub_self]; rfl, hc.mono ⟨_, rfl⟩⟩
  · rw [if_neg hik]
    obtain ⟨a, e, g1, g2⟩ := h4 i (by omega)
    exact ⟨a, e, by rw [List.getElem?_append_left (by omega)]; exact g1, g2.mono ⟨_, rfl⟩⟩
def ev_fr (ads : List Nat) (nL : Nat) (al : List ev_V) (ls : Array Slot) : Prop :=
  al.length = nL ∧ ∃ lv, lv_has ls nL lv ∧ ∀ (i : Nat) (v : ev_V), al[i]? = some v → v.1 ≤ 3 → ∃ w, (i, w) ∈ lv ∧ ev_rel ads v w
theorem ev_fr.mono {ads ads' : List Nat} {nL : Nat} {al : List ev_V} {ls : Array Slot} (h : ev_fr ads nL al ls) (hp : ∃ x, ads' = ads ++ x) : ev_fr ads' nL al ls := by
  obtain ⟨h1, lv, h2, h3⟩ := h
  exact ⟨h1, lv, h2, fun i v hi hv => by obtain ⟨w, q1, q2⟩ := h3 i v hi hv; exact ⟨w, q1, q2.mono hp⟩⟩
theorem ev_fr.get {ads : List Nat} {nL : Nat} {al : List ev_V} {ls : Array Slot} (h : ev_fr ads nL al ls) {i : Nat} {v : ev_V} (hi : al[i]? = some v) (hv : v.1 ≤ 3) : ∃ w, ls[i]? = some (.val w) ∧ ev_rel ads v w := by
  obtain ⟨h1, lv, h2, h3⟩ := h
  obtain ⟨w, q1, q2⟩ := h3 i v hi hv
  exact ⟨w, h2.2.2 (i, w) q1, q2⟩
theorem ev_fr.set {ads : List Nat} {nL : Nat} {al : List ev_V} {ls' : Array Slot} {lv : List (Nat × Value)} (h1 : al.length = nL) (h3 : ∀ (i : Nat) (v : ev_V), al[i]? = some v → v.1 ≤ 3 → ∃ w, (i, w) ∈ lv ∧ ev_rel ads v w) {k : Nat} {v : ev_V} {w : Value} (hv : ev_rel ads v w) (hh : lv_has ls' nL ((k, w) :: lv.filter (fun q => !(q.1 == k) && !(q.1 + 1 == k && q.2.category == 2)))) : ev_fr ads nL (al.set k v) ls' := by
  refine ⟨by rw [List.length_set]; exact h1, _, hh, fun i v' hi hv' => ?_⟩
  rw [List.getElem?_set] at hi
  by_cases hik : k = i
  · subst hik
    rw [if_pos rfl] at hi
    split at hi
    · cases hi
      exact ⟨w, List.mem_cons_self, hv⟩
    · cases hi
  · rw [if_neg hik] at hi
    obtain ⟨w', q1, q2⟩ := h3 i v' hi hv'
    refine ⟨w', List.mem_cons_of_mem _ (List.mem_filter.mpr ⟨q1, ?_⟩), q2⟩
    have hc := q2.cat hv'
    have e1 : (i == k) = false := by simpa using fun z => hik z.symm
    simp [e1, hc]
section EvOps
variable {p : Program} {l : Launch} {e : Env} {R : Room} {s : State} {m : MethodId} {args : Array Value} {below : List Frame} {meth : Method} {c : Code} {Q : State → Prop}
variable {cc : ByteArray} {own : String} {nL : Nat} {D : va_G} {cA : Nat → ClassId} {A : Nat → Prop} {ads0 : List Nat} {n0 s0 d : Nat} {res : ev_V × Nat × Nat × ev_H}
def ev_cx (p : Program) (R : Room) (s : State) (m : MethodId) (args : Array Value) (c : Code) (cc : ByteArray) (own : String) (nL : Nat) (D : va_G) (cA : Nat → ClassId) (A : Nat → Prop) (d n0 s0 : Nat) (res : ev_V × Nat × Nat × ev_H) : Prop :=
  p.tables.exec = Jvm.exec ∧ c.code = cc ∧ (∀ w ∈ en_WS, w.before args s = true) ∧ s.vm.findClass own = some m.cls ∧ va_K D en_classes (en_tys cA) s ∧ (∀ q, s.heap.size ≤ q → A q) ∧ c.maxLocals = nL ∧ R.frames = d + 1 ∧ R.locals = 60 * (d + 1) ∧ res.2.2.1 ≤ n0 + R.cells ∧ res.2.1 ≤ s0 + R.slots ∧ en_N s
def ev_gd (p : Program) (l : Launch) (e : Env) (R : Room) (s : State) (m : MethodId) (args : Array Value) (below : List Frame) (meth : Method) (c : Code) (Q : State → Prop) (nL : Nat) (D : va_G) (cA : Nat → ClassId) (A : Nat → Prop) (ads0 : List Nat) (n0 s0 : Nat) (res : ev_V × Nat × Nat × ev_H) (pc : Nat) (al st : List ev_V) (ns nc : Nat) (h : ev_H) : Prop :=
  nc ≤ res.2.2.1 ∧ ns ≤ res.2.1 ∧ ∀ (ads : List Nat) (ws : va_W) (H : Heap) (locs : List Loc) (ls : Array Slot) (vs : List Value), (∃ x, ads = ads0 ++ x) → n0 ≤ nc → s0 ≤ ns → ev_wo D cA A ads ws nc h H → va_S A s.heap H locs → ev_fr ads nL al ls → ev_relS ads st vs → W p l e R s m args below meth c H locs (nc - n0) (ns - s0) Q (F0 m pc ls vs)
def ev_sd (p : Program) (l : Launch) (e : Env) (R : Room) (s : State) (m : MethodId) (args : Array Value) (below : List Frame) (meth : Method) (c : Code) (Q : State → Prop) (nL : Nat) (D : va_G) (cA : Nat → ClassId) (A : Nat → Prop) (ads0 : List Nat) (n0 s0 : Nat) (res : ev_V × Nat × Nat × ev_H) (call : ev_Call) (op : ev_Op) (pc len : Nat) : Prop :=
  ∀ (Kn : ev_S) (Kj : Nat → ev_S) (al st : List ev_V) (ns nc : Nat) (h : ev_H), op call Kn Kj al st ns nc h = some res →
    (∀ al st ns nc h, Kn al st ns nc h = some res → ev_gd p l e R s m args below meth c Q nL D cA A ads0 n0 s0 res (pc + len) al st ns nc h) →
    (∀ t al st ns nc h, Kj t al st ns nc h = some res → ev_gd p l e R s m args below meth c Q nL D cA A ads0 n0 s0 res t al st ns nc h) →
    ev_gd p l e R s m args below meth c Q nL D cA A ads0 n0 s0 res pc al st ns nc h
end EvOps
end
section
section EvSimple
variable {p : Program} {l : Launch} {e : Env} {R : Room} {s : State} {m : MethodId} {args : Array Value} {below : List Frame} {meth : Method} {c : Code} {Q : State → Prop}
variable {cc : ByteArray} {own : String} {nL : Nat} {D : va_G} {cA : Nat → ClassId} {A : Nat → Prop} {ads0 : List Nat} {n0 s0 d : Nat} {res : ev_V × Nat × Nat × ev_H} {call : ev_Call} {pc len : Nat}
theorem es_push {v : ev_V} {w : Value} (hw : ∀ ads, ev_rel ads v w) (hrow : ∀ (H : Heap) (locs : List Loc) (k n : Nat) (ls : Array Slot) (rest : List Value), W p l e R s m args below meth c H locs k n Q (F0 m (pc + len) ls (w :: rest)) → W p l e R s m args below meth c H locs k n Q (F0 m pc ls rest)) : ev_sd p l e R s m args below meth c Q nL D cA A ads0 n0 s0 res call (eo_push v) pc len := by
  intro Kn Kj al st ns nc h hh hn hj
  obtain ⟨g1, g2, g3⟩ := hn _ _ _ _ _ hh
  exact ⟨g1, g2, fun ads ws H locs ls vs hp h0 h1 hwo hS hfr hst => hrow _ _ _ _ _ _ (g3 ads ws H locs ls (w :: vs) hp h0 h1 hwo hS hfr ⟨hw ads, hst⟩)⟩
theorem es_iload {i : Nat} (hrow : ∀ (H : Heap) (locs : List Loc) (k n : Nat) (ls : Array Slot) (rest : List Value) (x : Int32), ls[i]? = some (.val (.int x)) → W p l e R s m args below meth c H locs k n Q (F0 m (pc + len) ls (.int x :: rest)) → W p l e R s m args below meth c H locs k n Q (F0 m pc ls rest)) : ev_sd p l e R s m args below meth c Q nL D cA A ads0 n0 s0 res call (eo_iload i) pc len := by
  intro Kn Kj al st ns nc h hh hn hj
  have hq := ev_get_some hh
  clear hh
  obtain ⟨⟨t, a, b⟩, e1, hh⟩ := hq
  have hq := ev_if_some hh
  clear hh
  obtain ⟨e2, hh⟩ := hq
  have e2 : t ≤ 1 := by simpa using e2
  obtain ⟨g1, g2, g3⟩ := hn _ _ _ _ _ hh
  refine ⟨g1, g2, fun ads ws H locs ls vs hp h0 h1 hwo hS hfr hst => ?_⟩
  obtain ⟨w, q1, q2⟩ := hfr.get e1 (show t ≤ 3 by omega)
  obtain ⟨x, rfl, -⟩ := q2.int e2
  exact hrow _ _ _ _ _ _ x q1 (g3 ads ws H locs ls _ hp h0 h1 hwo hS hfr ⟨q2, hst⟩)
theorem es_aload {i : Nat} (hrow : ∀ (H : Heap) (locs : List Loc) (k n : Nat) (ls : Array Slot) (rest : List Value) (x : Nat), ls[i]? = some (.val (.ref x)) → W p l e R s m args below meth c H locs k n Q (F0 m (pc + len) ls (.ref x :: rest)) → W p l e R s m args below meth c H locs k n Q (F0 m pc ls rest)) : ev_sd p l e R s m args below meth c Q nL D cA A ads0 n0 s0 res call (eo_aload i) pc len := by
  intro Kn Kj al st ns nc h hh hn hj
  have hq := ev_get_some hh
  clear hh
  obtain ⟨⟨t, a, b⟩, e1, hh⟩ := hq
  have hq := ev_if_some hh
  clear hh
  obtain ⟨e2, hh⟩ := hq
  have e2 : t = 2 := Nat.eq_of_beq_eq_true e2
  obtain ⟨g1, g2, g3⟩ := hn _ _ _ _ _ hh
  refine ⟨g1, g2, fun ads ws H locs ls vs hp h0 h1 hwo hS hfr hst => ?_⟩
  obtain ⟨w, q1, q2⟩ := hfr.get e1 (show t ≤ 3 by omega)
  obtain ⟨x, -, rfl⟩ := q2.ref (by omega)
  exact hrow _ _ _ _ _ _ x q1 (g3 ads ws H locs ls _ hp h0 h1 hwo hS hfr ⟨q2, hst⟩)
theorem es_istore {i : Nat} (hrow : ∀ (H : Heap) (locs : List Loc) (k n : Nat) (ls : Array Slot) (lv : List (Nat × Value)) (rest : List Value) (x : Int32), lv_has ls nL lv → i < nL → (∀ ls' : Array Slot, lv_has ls' nL ((i, .int x) :: lv.filter (fun q => !(q.1 == i) && !(q.1 + 1 == i && q.2.category == 2))) → W p l e R s m args below meth c H locs k n Q (F0 m (pc + len) ls' rest)) → W p l e R s m args below meth c H locs k n Q (F0 m pc ls (.int x :: rest))) : ev_sd p l e R s m args below meth c Q nL D cA A ads0 n0 s0 res call (eo_istore i) pc len := by
  intro Kn Kj al st ns nc h hh hn hj
  have hq := ev_1_some hh
  clear hh
  obtain ⟨⟨t, a, b⟩, r, rfl, hh⟩ := hq
  have hq := ev_if_some hh
  clear hh
  obtain ⟨e2, hh⟩ := hq
  have hq := ev_setK_some hh
  clear hh
  obtain ⟨e3, hh⟩ := hq
  have e2 : t ≤ 1 := by simpa using e2
  obtain ⟨g1, g2, g3⟩ := hn _ _ _ _ _ hh
  refine ⟨g1, g2, fun ads ws H locs ls vs hp h0 h1 hwo hS hfr hst => ?_⟩
  have hq := hst.cons
  clear hst
  obtain ⟨w, vs, rfl, q2, hst⟩ := hq
  obtain ⟨x, rfl, -⟩ := q2.int e2
  obtain ⟨f1, lv, f2, f3⟩ := hfr
  exact hrow _ _ _ _ _ lv _ x f2 (by omega) fun ls' hls' => g3 ads ws H locs ls' _ hp h0 h1 hwo hS (ev_fr.set f1 f3 q2 hls') hst
theorem es_astore {i : Nat} (hrow : ∀ (H : Heap) (locs : List Loc) (k n : Nat) (ls : Array Slot) (lv : List (Nat × Value)) (rest : List Value) (x : Nat), lv_has ls nL lv → i < nL → (∀ ls' : Array Slot, lv_has ls' nL ((i, .ref x) :: lv.filter (fun q => !(q.1 == i) && !(q.1 + 1 == i && q.2.category == 2))) → W p l e R s m args below meth c H locs k n Q (F0 m (pc + len) ls' rest)) → W p l e R s m args below meth c H locs k n Q (F0 m pc ls (.ref x :: rest))) : ev_sd p l e R s m args below meth c Q nL D cA A ads0 n0 s0 res call (eo_astore i) pc len := by
  intro Kn Kj al st ns nc h hh hn hj
  have hq := ev_1_some hh
  clear hh
  obtain ⟨⟨t, a, b⟩, r, rfl, hh⟩ := hq
  have hq := ev_if_some hh
  clear hh
  obtain ⟨e2, hh⟩ := hq
  have hq := ev_setK_some hh
  clear hh
  obtain ⟨e3, hh⟩ := hq
  have e2 : t = 2 := Nat.eq_of_beq_eq_true e2
  obtain ⟨g1, g2, g3⟩ := hn _ _ _ _ _ hh
  refine ⟨g1, g2, fun ads ws H locs ls vs hp h0 h1 hwo hS hfr hst => ?_⟩
  have hq := hst.cons
  clear hst
  obtain ⟨w, vs, rfl, q2, hst⟩ := hq
  obtain ⟨x, -, rfl⟩ := q2.ref (by omega)
  obtain ⟨f1, lv, f2, f3⟩ := hfr
  exact hrow _ _ _ _ _ lv _ x f2 (by omega) fun ls' hls' => g3 ads ws H locs ls' _ hp h0 h1 hwo hS (ev_fr.set f1 f3 q2 hls') hst
theorem es_iinc {i n : Nat} (hrow : ∀ (H : Heap) (locs : List Loc) (k n' : Nat) (ls : Array Slot) (lv : List (Nat × Value)) (rest : List Value) (x : Int32), lv_has ls nL lv → (i, Value.int x) ∈ lv → i < nL → (∀ ls' : Array Slot, lv_has ls' nL ((i, .int (x + ev_i n)) :: lv.filter (fun q => !(q.1 == i) && !(q.1 + 1 == i && q.2.category == 2))) → W p l e R s m args below meth c H locs k n' Q (F0 m (pc + len) ls' rest)) → W p l e R s m args below meth c H locs k n' Q (F0 m pc ls rest)) : ev_sd p l e R s m args below meth c Q nL D cA A ads0 n0 s0 res call (eo_iinc i n) pc len := by
  intro Kn Kj al st ns nc h hh hn hj
  have hq := ev_get_some hh
  clear hh
  obtain ⟨⟨t, a, b⟩, e1, hh⟩ := hq
  have hq := ev_bin_some hh
  clear hh
  obtain ⟨e2, -, cv, hh, hc⟩ := hq
  have hq := ev_setK_some hh
  clear hh
  obtain ⟨e3, hh⟩ := hq
  have e2 : t ≤ 1 := e2
  obtain ⟨g1, g2, g3⟩ := hn _ _ _ _ _ hh
  refine ⟨g1, g2, fun ads ws H locs ls vs hp h0 h1 hwo hS hfr hst => ?_⟩
  obtain ⟨f1, lv, f2, f3⟩ := hfr
  obtain ⟨w, q1, q2⟩ := f3 i _ e1 (show t ≤ 3 by omega)
  obtain ⟨x, rfl, -⟩ := q2.int e2
  exact hrow _ _ _ _ _ lv _ x f2 q1 (by omega) fun ls' hls' => g3 ads ws H locs ls' _ hp h0 h1 hwo hS (ev_fr.set f1 f3 (hc ads x (ev_i n) q2 (ev_rel.of ads n 0)) hls') hst
theorem es_bin {o : Int32 → Int32 → Int32} (hrow : ∀ (H : Heap) (locs : List Loc) (k n : Nat) (ls : Array Slot) (rest : List Value) (x y : Int32), W p l e R s m args below meth c H locs k n Q (F0 m (pc + len) ls (.int (o x y) :: rest)) → W p l e R s m args below meth c H locs k n Q (F0 m pc ls (.int y :: .int x :: rest))) : ev_sd p l e R s m args below meth c Q nL D cA A ads0 n0 s0 res call (eo_bin o) pc len := by
  intro Kn Kj al st ns nc h hh hn hj
  have hq := ev_2_some hh
  clear hh
  obtain ⟨vb, va, r, rfl, hh⟩ := hq
  have hq := ev_bin_some hh
  clear hh
  obtain ⟨e1, e2, cv, hh, hc⟩ := hq
  obtain ⟨g1, g2, g3⟩ := hn _ _ _ _ _ hh
  refine ⟨g1, g2, fun ads ws H locs ls vs hp h0 h1 hwo hS hfr hst => ?_⟩
  have hq := hst.cons
  clear hst
  obtain ⟨w, vs, rfl, q2, hst⟩ := hq
  have hq := hst.cons
  clear hst
  obtain ⟨w', vs, rfl, q3, hst⟩ := hq
  obtain ⟨y, rfl, -⟩ := ev_rel.int (t := vb.1) (a := vb.2.1) (b := vb.2.2) q2 e2
  obtain ⟨x, rfl, -⟩ := ev_rel.int (t := va.1) (a := va.2.1) (b := va.2.2) q3 e1
  exact hrow _ _ _ _ _ _ x y (g3 ads ws H locs ls _ hp h0 h1 hwo hS hfr ⟨hc ads x y q3 q2, hst⟩)
theorem es_div {o : Int32 → Int32 → Int32} (hrow : ∀ (H : Heap) (locs : List Loc) (k n : Nat) (ls : Array Slot) (rest : List Value) (x y : Int32), ¬ y = 0 → W p l e R s m args below meth c H locs k n Q (F0 m (pc + len) ls (.int (o x y) :: rest)) → W p l e R s m args below meth c H locs k n Q (F0 m pc ls (.int y :: .int x :: rest))) : ev_sd p l e R s m args below meth c Q nL D cA A ads0 n0 s0 res call (eo_div o) pc len := by
  intro Kn Kj al st ns nc h hh hn hj
  have hq := ev_2_some hh
  clear hh
  obtain ⟨vb, va, r, rfl, hh⟩ := hq
  have hq := ev_nat_some hh
  clear hh
  obtain ⟨b0, b1, hh⟩ := hq
  have hq := ev_if_some hh
  clear hh
  obtain ⟨b2, hh⟩ := hq
  have b2 : 0 < vb.2.1 := by simpa using b2
  have hq := ev_bin_some hh
  clear hh
  obtain ⟨e1, e2, cv, hh, hc⟩ := hq
  obtain ⟨g1, g2, g3⟩ := hn _ _ _ _ _ hh
  refine ⟨g1, g2, fun ads ws H locs ls vs hp h0 h1 hwo hS hfr hst => ?_⟩
  have hq := hst.cons
  clear hst
  obtain ⟨w, vs, rfl, q2, hst⟩ := hq
  have hq := hst.cons
  clear hst
  obtain ⟨w', vs, rfl, q3, hst⟩ := hq
  obtain ⟨y, rfl, ey, -⟩ := ev_rel.int (t := vb.1) (a := vb.2.1) (b := vb.2.2) q2 e2
  obtain ⟨x, rfl, -⟩ := ev_rel.int (t := va.1) (a := va.2.1) (b := va.2.2) q3 e1
  exact hrow _ _ _ _ _ _ x y (by rw [ey b0]; exact nI_ne0 b2 (by omega)) (g3 ads ws H locs ls _ hp h0 h1 hwo hS hfr ⟨hc ads x y q3 q2, hst⟩)
theorem es_un {o : Int32 → Int32} (hrow : ∀ (H : Heap) (locs : List Loc) (k n : Nat) (ls : Array Slot) (rest : List Value) (x : Int32), W p l e R s m args below meth c H locs k n Q (F0 m (pc + len) ls (.int (o x) :: rest)) → W p l e R s m args below meth c H locs k n Q (F0 m pc ls (.int x :: rest))) : ev_sd p l e R s m args below meth c Q nL D cA A ads0 n0 s0 res call (eo_un o) pc len := by
  intro Kn Kj al st ns nc h hh hn hj
  have hq := ev_1_some hh
  clear hh
  obtain ⟨va, r, rfl, hh⟩ := hq
  have hq := ev_un_some hh
  clear hh
  obtain ⟨e1, cv, -, hh, hc⟩ := hq
  obtain ⟨g1, g2, g3⟩ := hn _ _ _ _ _ hh
  refine ⟨g1, g2, fun ads ws H locs ls vs hp h0 h1 hwo hS hfr hst => ?_⟩
  have hq := hst.cons
  clear hst
  obtain ⟨w', vs, rfl, q3, hst⟩ := hq
  obtain ⟨x, rfl, -⟩ := ev_rel.int (t := va.1) (a := va.2.1) (b := va.2.2) q3 e1
  exact hrow _ _ _ _ _ _ x (g3 ads ws H locs ls _ hp h0 h1 hwo hS hfr ⟨hc ads x q3, hst⟩)
theorem es_dup (hrow : ∀ (H : Heap) (locs : List Loc) (k n : Nat) (ls : Array Slot) (rest : List Value) (w : Value), w.category = 1 → W p l e R s m args below meth c H locs k n Q (F0 m (pc + len) ls (w :: w :: rest)) → W p l e R s m args below meth c H locs k n Q (F0 m pc ls (w :: rest))) : ev_sd p l e R s m args below meth c Q nL D cA A ads0 n0 s0 res call eo_dup pc len := by
  intro Kn Kj al st ns nc h hh hn hj
  have hq := ev_1_some hh
  clear hh
  obtain ⟨va, r, rfl, hh⟩ := hq
  have hq := ev_if_some hh
  clear hh
  obtain ⟨e1, hh⟩ := hq
  have e1 : va.1 ≤ 3 := by simpa using e1
  obtain ⟨g1, g2, g3⟩ := hn _ _ _ _ _ hh
  refine ⟨g1, g2, fun ads ws H locs ls vs hp h0 h1 hwo hS hfr hst => ?_⟩
  have hq := hst.cons
  clear hst
  obtain ⟨w', vs, rfl, q3, hst⟩ := hq
  exact hrow _ _ _ _ _ _ _ (q3.cat e1) (g3 ads ws H locs ls _ hp h0 h1 hwo hS hfr ⟨q3, q3, hst⟩)
theorem es_dup2 (hrow : ∀ (H : Heap) (locs : List Loc) (k n : Nat) (ls : Array Slot) (rest : List Value) (w w' : Value), w.category = 1 → w'.category = 1 → W p l e R s m args below meth c H locs k n Q (F0 m (pc + len) ls (w :: w' :: w :: w' :: rest)) → W p l e R s m args below meth c H locs k n Q (F0 m pc ls (w :: w' :: rest))) : ev_sd p l e R s m args below meth c Q nL D cA A ads0 n0 s0 res call eo_dup2 pc len := by
  intro Kn Kj al st ns nc h hh hn hj
  have hq := ev_2_some hh
  clear hh
  obtain ⟨va, vb, r, rfl, hh⟩ := hq
  have hq := ev_if_some hh
  clear hh
  obtain ⟨e1, hh⟩ := hq
  have hq := ev_if_some hh
  clear hh
  obtain ⟨e2, hh⟩ := hq
  have e1 : va.1 ≤ 3 := by simpa using e1
  have e2 : vb.1 ≤ 3 := by simpa using e2
  obtain ⟨g1, g2, g3⟩ := hn _ _ _ _ _ hh
  refine ⟨g1, g2, fun ads ws H locs ls vs hp h0 h1 hwo hS hfr hst => ?_⟩
  have hq := hst.cons
  clear hst
  obtain ⟨w', vs, rfl, q3, hst⟩ := hq
  have hq := hst.cons
  clear hst
  obtain ⟨w, vs, rfl, q4, hst⟩ := hq
  exact hrow _ _ _ _ _ _ _ _ (q3.cat e1) (q4.cat e2) (g3 ads ws H locs ls _ hp h0 h1 hwo hS hfr ⟨q3, q4, q3, q4, hst⟩)
theorem es_pop (hrow : ∀ (H : Heap) (locs : List Loc) (k n : Nat) (ls : Array Slot) (rest : List Value) (w : Value), w.category = 1 → W p l e R s m args below meth c H locs k n Q (F0 m (pc + len) ls rest) → W p l e R s m args below meth c H locs k n Q (F0 m pc ls (w :: rest))) : ev_sd p l e R s m args below meth c Q nL D cA A ads0 n0 s0 res call eo_pop pc len := by
  intro Kn Kj al st ns nc h hh hn hj
  have hq := ev_1_some hh
  clear hh
  obtain ⟨va, r, rfl, hh⟩ := hq
  have hq := ev_if_some hh
  clear hh
  obtain ⟨e1, hh⟩ := hq
  have e1 : va.1 ≤ 3 := by simpa using e1
  obtain ⟨g1, g2, g3⟩ := hn _ _ _ _ _ hh
  refine ⟨g1, g2, fun ads ws H locs ls vs hp h0 h1 hwo hS hfr hst => ?_⟩
  have hq := hst.cons
  clear hst
  obtain ⟨w', vs, rfl, q3, hst⟩ := hq
  exact hrow _ _ _ _ _ _ _ (q3.cat e1) (g3 ads ws H locs ls _ hp h0 h1 hwo hS hfr hst)
theorem es_ifc {cd : ClassFile.Cond} {t : Nat} (hrow : ∀ (H : Heap) (locs : List Loc) (k n : Nat) (ls : Array Slot) (rest : List Value) (x : Int32), (ev_holds cd x 0 → W p l e R s m args below meth c H locs k n Q (F0 m t ls rest)) → (¬ ev_holds cd x 0 → W p l e R s m args below meth c H locs k n Q (F0 m (pc + len) ls rest)) → W p l e R s m args below meth c H locs k n Q (F0 m pc ls (.int x :: rest))) : ev_sd p l e R s m args below meth c Q nL D cA A ads0 n0 s0 res call (eo_ifc cd t) pc len := by
  intro Kn Kj al st ns nc h hh hn hj
  have hq := ev_1_some hh
  clear hh
  obtain ⟨va, r, rfl, hh⟩ := hq
  have hq := ev_rng_some hh
  clear hh
  obtain ⟨e1, x1, y1, hh, hr⟩ := hq
  have hz : ∀ x : Int32, x1 ≤ ev_key x ∧ ev_key x ≤ y1 → (ev_holds cd x 0 ∧ Kj t al r ns nc h = some res) ∨ (¬ ev_holds cd x 0 ∧ Kn al r ns nc h = some res) := fun x hx => ev_cmp_some hh hx ⟨Nat.le_of_eq ev_key_0.symm, Nat.le_of_eq ev_key_0⟩
  have mono : nc ≤ res.2.2.1 ∧ ns ≤ res.2.1 := by
    have hq : Kj t al r ns nc h = some res ∨ Kn al r ns nc h = some res := by
      cases cd <;> simp only [ev_cmp] at hh
      · rcases ev_eq_some hh with ⟨-, -, -, hh⟩ | ⟨-, hh⟩ <;> simp [hh]
      · rcases ev_eq_some hh with ⟨-, -, -, hh⟩ | ⟨-, hh⟩ <;> simp [hh]
      all_goals rcases ev_lt_some hh with ⟨-, hh⟩ | ⟨-, hh⟩ <;> simp [hh]
    rcases hq with hq | hq
    · exact ⟨(hj _ _ _ _ _ _ hq).1, (hj _ _ _ _ _ _ hq).2.1⟩
    · exact ⟨(hn _ _ _ _ _ hq).1, (hn _ _ _ _ _ hq).2.1⟩
  refine ⟨mono.1, mono.2, fun ads ws H locs ls vs hp h0 h1 hwo hS hfr hst => ?_⟩
  have hq := hst.cons
  clear hst
  obtain ⟨w', vs, rfl, q3, hst⟩ := hq
  obtain ⟨x, rfl, -⟩ := ev_rel.int (t := va.1) (a := va.2.1) (b := va.2.2) q3 e1
  rcases hz x (hr ads x q3) with ⟨z1, z2⟩ | ⟨z1, z2⟩
  · exact hrow _ _ _ _ _ _ x (fun _ => (hj _ _ _ _ _ _ z2).2.2 ads ws H locs ls _ hp h0 h1 hwo hS hfr hst) (fun z => absurd z1 z)
  · exact hrow _ _ _ _ _ _ x (fun z => absurd z z1) (fun _ => (hn _ _ _ _ _ z2).2.2 ads ws H locs ls _ hp h0 h1 hwo hS hfr hst)
theorem es_icmp {cd : ClassFile.Cond} {t : Nat} (hrow : ∀ (H : Heap) (locs : List Loc) (k n : Nat) (ls : Array Slot) (rest : List Value) (x y : Int32), (ev_holds cd x y → W p l e R s m args below meth c H locs k n Q (F0 m t ls rest)) → (¬ ev_holds cd x y → W p l e R s m args below meth c H locs k n Q (F0 m (pc + len) ls rest)) → W p l e R s m args below meth c H locs k n Q (F0 m pc ls (.int y :: .int x :: rest))) : ev_sd p l e R s m args below meth c Q nL D cA A ads0 n0 s0 res call (eo_icmp cd t) pc len := by
  intro Kn Kj al st ns nc h hh hn hj
  have hq := ev_2_some hh
  clear hh
  obtain ⟨vb, va, r, rfl, hh⟩ := hq
  have hq := ev_rng_some hh
  clear hh
  obtain ⟨e1, x1, y1, hh, hr⟩ := hq
  have hq := ev_rng_some hh
  clear hh
  obtain ⟨e2, x2, y2, hh, hr2⟩ := hq
  have hz : ∀ x y : Int32, x1 ≤ ev_key x ∧ ev_key x ≤ y1 → x2 ≤ ev_key y ∧ ev_key y ≤ y2 → (ev_holds cd x y ∧ Kj t al r ns nc h = some res) ∨ (¬ ev_holds cd x y ∧ Kn al r ns nc h = some res) := fun x y hx hy => ev_cmp_some hh hx hy
  have mono : nc ≤ res.2.2.1 ∧ ns ≤ res.2.1 := by
    have hq : Kj t al r ns nc h = some res ∨ Kn al r ns nc h = some res := by
      cases cd <;> simp only [ev_cmp] at hh
      · rcases ev_eq_some hh with ⟨-, -, -, hh⟩ | ⟨-, hh⟩ <;> simp [hh]
      · rcases ev_eq_some hh with ⟨-, -, -, hh⟩ | ⟨-, hh⟩ <;> simp [hh]
      all_goals rcases ev_lt_some hh with ⟨-, hh⟩ | ⟨-, hh⟩ <;> simp [hh]
    rcases hq with hq | hq
    · exact ⟨(hj _ _ _ _ _ _ hq).1, (hj _ _ _ _ _ _ hq).2.1⟩
    · exact ⟨(hn _ _ _ _ _ hq).1, (hn _ _ _ _ _ hq).2.1⟩
  refine ⟨mono.1, mono.2, fun ads ws H locs ls vs hp h0 h1 hwo hS hfr hst => ?_⟩
  have hq := hst.cons
  clear hst
  obtain ⟨w, vs, rfl, q2, hst⟩ := hq
  have hq := hst.cons
  clear hst
  obtain ⟨w', vs, rfl, q3, hst⟩ := hq
  obtain ⟨y, rfl, -⟩ := ev_rel.int (t := vb.1) (a := vb.2.1) (b := vb.2.2) q2 e2
  obtain ⟨x, rfl, -⟩ := ev_rel.int (t := va.1) (a := va.2.1) (b := va.2.2) q3 e1
  rcases hz x y (hr ads x q3) (hr2 ads y q2) with ⟨z1, z2⟩ | ⟨z1, z2⟩
  · exact hrow _ _ _ _ _ _ x y (fun _ => (hj _ _ _ _ _ _ z2).2.2 ads ws H locs ls _ hp h0 h1 hwo hS hfr hst) (fun z => absurd z1 z)
  · exact hrow _ _ _ _ _ _ x y (fun z => absurd z z1) (fun _ => (hn _ _ _ _ _ z2).2.2 ads ws H locs ls _ hp h0 h1 hwo hS hfr hst)
theorem es_goto {t : Nat} (hrow : ∀ (H : Heap) (locs : List Loc) (k n : Nat) (ls : Array Slot) (rest : List Value), W p l e R s m args below meth c H locs k n Q (F0 m t ls rest) → W p l e R s m args below meth c H locs k n Q (F0 m pc ls rest)) : ev_sd p l e R s m args below meth c Q nL D cA A ads0 n0 s0 res call (eo_goto t) pc len := by
  intro Kn Kj al st ns nc h hh hn hj
  obtain ⟨g1, g2, g3⟩ := hj _ _ _ _ _ _ hh
  exact ⟨g1, g2, fun ads ws H locs ls vs hp h0 h1 hwo hS hfr hst => hrow _ _ _ _ _ _ (g3 ads ws H locs ls vs hp h0 h1 hwo hS hfr hst)⟩
theorem es_tab {lo dt : Nat} {ts : List Nat} (hrow : ∀ (H : Heap) (locs : List Loc) (k n : Nat) (ls : Array Slot) (rest : List Value) (x : Int32) (t : Nat), ((ev_key x < lo ∨ lo + ts.length ≤ ev_key x) ∧ t = dt ∨ lo ≤ ev_key x ∧ ts[ev_key x - lo]? = some t) → W p l e R s m args below meth c H locs k n Q (F0 m t ls rest) → W p l e R s m args below meth c H locs k n Q (F0 m pc ls (.int x :: rest))) : ev_sd p l e R s m args below meth c Q nL D cA A ads0 n0 s0 res call (eo_tab lo ts dt) pc len := by
  intro Kn Kj al st ns nc h hh hn hj
  have hq := ev_1_some hh
  clear hh
  obtain ⟨va, r, rfl, hh⟩ := hq
  have hq := ev_rng_some hh
  clear hh
  obtain ⟨e1, x1, y1, hh, hr⟩ := hq
  have key : ∃ t, Kj t al r ns nc h = some res ∧ ∀ x : Int32, x1 ≤ ev_key x ∧ ev_key x ≤ y1 → ((ev_key x < lo ∨ lo + ts.length ≤ ev_key x) ∧ t = dt ∨ lo ≤ ev_key x ∧ ts[ev_key x - lo]? = some t) := by
    by_cases hz : Nat.blt y1 lo = true
    · rw [hz] at hh
      have hz : y1 < lo := by simpa using hz
      exact ⟨dt, hh, fun x hx => Or.inl ⟨Or.inl (by omega), rfl⟩⟩
    · rw [Bool.eq_false_iff.mpr hz] at hh
      simp only [] at hh
      have hz : ¬ y1 < lo := by simpa using hz
      by_cases hy : Nat.ble (Nat.add lo ts.length) x1 = true
      · rw [hy] at hh
        have hy : lo + ts.length ≤ x1 := Nat.le_of_ble_eq_true hy
        exact ⟨dt, hh, fun x hx => Or.inl ⟨Or.inr (by omega), rfl⟩⟩
      · rw [Bool.eq_false_iff.mpr hy] at hh
        simp only [] at hh
        have hq := ev_if_some hh
        clear hh
        obtain ⟨b1, hh⟩ := hq
        have b1 : x1 = y1 := Nat.eq_of_beq_eq_true b1
        have hq := ev_get_some hh
        clear hh
        obtain ⟨t, b2, hh⟩ := hq
        refine ⟨t, hh, fun x hx => Or.inr ⟨by omega, ?_⟩⟩
        rw [show ev_key x = x1 by omega]
        exact b2
  obtain ⟨t, hh, hk⟩ := key
  obtain ⟨g1, g2, g3⟩ := hj _ _ _ _ _ _ hh
  refine ⟨g1, g2, fun ads ws H locs ls vs hp h0 h1 hwo hS hfr hst => ?_⟩
  have hq := hst.cons
  clear hst
  obtain ⟨w', vs, rfl, q3, hst⟩ := hq
  obtain ⟨x, rfl, -⟩ := ev_rel.int (t := va.1) (a := va.2.1) (b := va.2.2) q3 e1
  exact hrow _ _ _ _ _ _ x t (hk x (hr ads x q3)) (g3 ads ws H locs ls _ hp h0 h1 hwo hS hfr hst)
end EvSimple
end
section
def ev_fits (kd : Nat) (w : Value) : Prop := match kd with
  | 0 => ∃ x : Int32, w = .int x
  | 1 => ∃ x : Int32, w = .int x ∧ (x = 0 ∨ x = 1)
  | 2 => w = .null ∨ ∃ a, w = .ref a
  | _ => ∃ x : Int64, w = .long x
theorem ev_kind_ok {kd : Nat} {v : ev_V} (h : ev_kind kd v.1 v.2.1 v.2.2 = true) {ads : List Nat} {w : Value} (hr : ev_rel ads v w) : ev_fits kd w := by
  obtain ⟨t, a, b⟩ := v
  match kd, h with
  | 0, h =>
    obtain ⟨x, rfl, -⟩ := hr.int (Nat.le_of_ble_eq_true h)
    exact ⟨x, rfl⟩
  | 1, h =>
    have h : (t = 0 ∧ a ≤ 1) ∨ (t = 1 ∧ 2147483648 ≤ a ∧ b ≤ 2147483649) := by
      simp only [ev_kind, Bool.or_eq_true, Bool.and_eq_true] at h
      rcases h with ⟨h1, h2⟩ | ⟨h1, h2, h3⟩
      · exact Or.inl ⟨Nat.eq_of_beq_eq_true h1, Nat.le_of_ble_eq_true h2⟩
      · exact Or.inr ⟨Nat.eq_of_beq_eq_true h1, Nat.le_of_ble_eq_true h2, Nat.le_of_ble_eq_true h3⟩
    obtain ⟨x, rfl, h1, h2⟩ := hr.int (by omega)
    refine ⟨x, rfl, ?_⟩
    rcases h with ⟨ht, ha⟩ | ⟨ht, ha, hb⟩
    · rw [h1 ht]
      have : a = 0 ∨ a = 1 := by omega
      rcases this with rfl | rfl
      · exact Or.inl rfl
      · exact Or.inr rfl
    · have hk := h2 ht
      have : ev_key x = 2147483648 ∨ ev_key x = 2147483649 := by omega
      rcases this with h | h
      · exact Or.inl (ev_key_eqI.mpr (h.trans ev_key_0.symm))
      · exact Or.inr (ev_key_eqI.mpr (h.trans (by decide +kernel)))
  | 2, h =>
    have h : t = 2 ∨ t = 3 := by
      simp only [ev_kind, Bool.or_eq_true] at h
      rcases h with h | h
      · exact Or.inl (Nat.eq_of_beq_eq_true h)
      · exact Or.inr (Nat.eq_of_beq_eq_true h)
    rcases h with rfl | rfl
    · obtain ⟨q, -, rfl⟩ := hr.ref rfl
      exact Or.inr ⟨q, rfl⟩
    · rcases hr with ⟨h0, h1⟩ | ⟨h0, h1⟩ | ⟨h0, h1⟩ | ⟨h0, h1⟩ | ⟨h0, h1⟩
      · exact absurd (show (3 : Nat) = 0 from h0) (by decide)
      · exact absurd (show (3 : Nat) = 1 from h0) (by decide)
      · exact absurd (show (3 : Nat) = 2 from h0) (by decide)
      · exact Or.inl h1
      · exact absurd (show (3 : Nat) = 4 from h0) (by decide)
  | k + 3, h =>
    have h : t = 4 := Nat.eq_of_beq_eq_true h
    subst h
    rcases hr with ⟨h0, h1⟩ | ⟨h0, h1⟩ | ⟨h0, h1⟩ | ⟨h0, h1⟩ | ⟨h0, h1⟩
    · exact absurd (show (4 : Nat) = 0 from h0) (by decide)
    · exact absurd (show (4 : Nat) = 1 from h0) (by decide)
    · exact absurd (show (4 : Nat) = 2 from h0) (by decide)
    · exact absurd (show (4 : Nat) = 3 from h0) (by decide)
    · exact ⟨_, h1⟩
theorem ev_relC.obj {cA : Nat → ClassId} {ads : List Nat} {tag : Nat} {l : List ev_V} {e : va_E} (h : ev_relC cA ads tag l e) (ht : tag < 50) : ∃ vs, e = .inr (tag, vs) ∧ vs.length = l.length ∧ ∀ (j : Nat) (v : ev_V), l[j]? = some v → ∃ w, vs[j]? = some w ∧ ev_rel ads v w := by
  rcases h with ⟨-, h⟩ | ⟨h, -⟩ | ⟨h, -⟩ | h
  · exact h
  · omega
  · omega
  · omega
theorem ev_relC.arr {cA : Nat → ClassId} {ads : List Nat} {tag : Nat} {l : List ev_V} {e : va_E} (h : ev_relC cA ads tag l e) (ht : 50 ≤ tag) (ht2 : tag ≤ 52) : ∃ f : Nat → Int32, e = .inl (cA (tag - 50), l.length, .inl f) ∧ ∀ (j : Nat) (v : ev_V), l[j]? = some v → ev_rel ads v (.int (f j)) := by
  rcases h with ⟨h, -⟩ | ⟨-, -, h⟩ | ⟨h, -⟩ | h
  · omega
  · exact h
  · omega
  · omega
theorem ev_fill_eq {v : ev_V} : ∀ (n : Nat) (k : List ev_V → ev_R), ev_fill n v k = k (List.replicate n v) := by
  intro n
  induction n with
  | zero => intro k; rfl
  | succ n ih => intro k; exact ih (fun l => k (v :: l))
theorem ev_in {j n : Nat} (hj : j < 65536) (h : j < n) : vp_in (ev_i j) n := fun z => by
  rcases z with z | z
  · exact nI_pos (show j < 2 ^ 31 by omega) z
  · have e : (ev_i j).toNatClampNeg = j := nI_clamp (show j < 2 ^ 31 by omega)
    omega
theorem ev_cl {j : Nat} (hj : j < 65536) : (ev_i j).toNatClampNeg = j := nI_clamp (show j < 2 ^ 31 by omega)
theorem ev_sum8 {vs : List Value} (h : vs.length ≤ 4) : (vs.map fun v => v.category).sum ≤ 8 := by
  have key : ∀ l : List Value, (l.map fun v => v.category).sum ≤ 2 * l.length := by
    intro l
    induction l with
    | nil => simp
    | cons v l ih =>
      have hv : v.category ≤ 2 := by cases v <;> simp [Value.category]
      simp only [List.map_cons, List.sum_cons, List.length_cons]
      omega
  have := key vs
  omega
theorem ev_small_ok {ads : List Nat} : ∀ {r : List ev_V} {vs : List Value}, ev_relS ads r vs → ev_small r = true → (vs.map fun v => v.category).sum ≤ 8 := by
  intro r vs h hs
  have h8 : r.length ≤ 8 ∧ ev_one r = true := by
    unfold ev_small at hs
    cases hz : Nat.ble r.length 8 with
    | false => rw [hz] at hs; exact absurd hs (by simp)
    | true => rw [hz] at hs; exact ⟨Nat.le_of_ble_eq_true hz, hs⟩
  have key : ∀ {r : List ev_V} {vs : List Value}, ev_relS ads r vs → ev_one r = true → (vs.map fun v => v.category).sum = r.length := by
    intro r
    induction r with
    | nil => intro vs h _; rw [h.nil]; rfl
    | cons v r ih =>
      intro vs h h1
      obtain ⟨w, ws, rfl, g1, g2⟩ := h.cons
      have h1' : Bool.rec (motive := fun _ => Bool) false (ev_one r) (Nat.ble v.1 3) = true := h1
      cases hz : Nat.ble v.1 3 with
      | false => rw [hz] at h1'; exact absurd h1' (by simp)
      | true =>
        rw [hz] at h1'
        have := ih g2 h1'
        have hc := g1.cat (Nat.le_of_ble_eq_true hz)
        simp only [List.map_cons, List.sum_cons, List.length_cons]
        omega
  rw [key h h8.2]
  exact h8.1
section EvHeap
variable {p : Program} {l : Launch} {e : Env} {R : Room} {s : State} {m : MethodId} {args : Array Value} {below : List Frame} {meth : Method} {c : Code} {Q : State → Prop}
variable {cc : ByteArray} {own : String} {nL : Nat} {D : va_G} {cA : Nat → ClassId} {A : Nat → Prop} {ads0 : List Nat} {n0 s0 d : Nat} {res : ev_V × Nat × Nat × ev_H} {call : ev_Call} {pc len : Nat}
theorem es_getf {ci k : Nat} (hci : ci < 50) (hrow : ∀ (H : Heap) (locs : List Loc) (k' n : Nat) (ls : Array Slot) (rest : List Value) (ws : va_W) (a q0 : Nat) (fs : List Value) (v : Value), va_P D en_classes ws H → ws[q0]? = some (a, .inr (ci, fs)) → fs[k]? = some v → W p l e R s m args below meth c H locs k' n Q (F0 m (pc + len) ls (v :: rest)) → W p l e R s m args below meth c H locs k' n Q (F0 m pc ls (.ref a :: rest))) : ev_sd p l e R s m args below meth c Q nL D cA A ads0 n0 s0 res call (eo_getf ci k) pc len := by
  intro Kn Kj al st ns nc h hh hn hj
  have hq := ev_1_some hh
  clear hh
  obtain ⟨vo, r, rfl, hh⟩ := hq
  have hq := ev_cell_some hh
  clear hh
  obtain ⟨t1, t2, hh⟩ := hq
  have hq := ev_if_some hh
  clear hh
  obtain ⟨t3, hh⟩ := hq
  have t3 : (ev_hg h vo.2.1).1 = ci := Nat.eq_of_beq_eq_true t3
  have hq := ev_get_some hh
  clear hh
  obtain ⟨v, t4, hh⟩ := hq
  obtain ⟨g1, g2, g3⟩ := hn _ _ _ _ _ hh
  refine ⟨g1, g2, fun ads ws H locs ls vs hp h0 h1 hwo hS hfr hst => ?_⟩
  have hq := hst.cons
  clear hst
  obtain ⟨w', vs, rfl, q3, hst⟩ := hq
  obtain ⟨q, e1, rfl⟩ := ev_rel.ref (t := vo.1) (a := vo.2.1) (b := vo.2.2) q3 t1
  obtain ⟨en, e2, e3⟩ := hwo.cell t2 e1
  obtain ⟨fs, rfl, e4, e5⟩ := e3.obj (by omega)
  obtain ⟨w, e6, e7⟩ := e5 k v t4
  rw [t3] at e2
  exact hrow _ _ _ _ _ _ ws q _ fs w hwo.2.2.2.2.1 e2 e6 (g3 ads ws H locs ls _ hp h0 h1 hwo hS hfr ⟨e7, hst⟩)
theorem es_putf {ci k kd : Nat} (hci : ci < 50) (hrow : ∀ (H : Heap) (locs : List Loc) (k' n : Nat) (ls : Array Slot) (rest : List Value) (ws : va_W) (a q0 : Nat) (fs : List Value) (v : Value), va_P D en_classes ws H → va_D A ws → va_S A s.heap H locs → ws[q0]? = some (a, .inr (ci, fs)) → k < fs.length → ev_fits kd v → (∀ (H1 : Heap) (locs1 : List Loc), va_P D en_classes (ws.set q0 (a, .inr (ci, fs.set k v))) H1 → va_D A (ws.set q0 (a, .inr (ci, fs.set k v))) → va_S A s.heap H1 locs1 → W p l e R s m args below meth c H1 locs1 k' n Q (F0 m (pc + len) ls rest)) → W p l e R s m args below meth c H locs k' n Q (F0 m pc ls (v :: .ref a :: rest))) : ev_sd p l e R s m args below meth c Q nL D cA A ads0 n0 s0 res call (eo_putf ci k kd) pc len := by
  intro Kn Kj al st ns nc h hh hn hj
  have hq := ev_2_some hh
  clear hh
  obtain ⟨v, vo, r, rfl, hh⟩ := hq
  have hq := ev_cell_some hh
  clear hh
  obtain ⟨t1, t2, hh⟩ := hq
  have hq := ev_if_some hh
  clear hh
  obtain ⟨t3, hh⟩ := hq
  have t3 : (ev_hg h vo.2.1).1 = ci := Nat.eq_of_beq_eq_true t3
  have hq := ev_if_some hh
  clear hh
  obtain ⟨t4, hh⟩ := hq
  have hq := ev_put_some hh
  clear hh
  obtain ⟨t5, hh⟩ := hq
  obtain ⟨g1, g2, g3⟩ := hn _ _ _ _ _ hh
  refine ⟨g1, g2, fun ads ws H locs ls vs hp h0 h1 hwo hS hfr hst => ?_⟩
  have hq := hst.cons
  clear hst
  obtain ⟨w, vs, rfl, q2, hst⟩ := hq
  have hq := hst.cons
  clear hst
  obtain ⟨w', vs, rfl, q3, hst⟩ := hq
  obtain ⟨q, e1, rfl⟩ := ev_rel.ref (t := vo.1) (a := vo.2.1) (b := vo.2.2) q3 t1
  obtain ⟨en, e2, e3⟩ := hwo.cell t2 e1
  obtain ⟨fs, rfl, e4, e5⟩ := e3.obj (by omega)
  rw [t3] at e2
  refine hrow _ _ _ _ _ _ ws q _ fs w hwo.2.2.2.2.1 hwo.2.2.2.2.2 hS e2 (by omega) (ev_kind_ok t4 q2) fun H1 locs1 hP hD hS1 => ?_
  refine g3 ads _ H1 locs1 ls _ hp h0 h1 (hwo.set t2 e2 _ _ ?_ hP hD) hS1 hfr hst
  refine Or.inl ⟨by omega, fs.set k w, by rw [t3], by rw [List.length_set, List.length_set]; exact e4, fun j v' hj' => ?_⟩
  rw [List.getElem?_set] at hj' ⊢
  by_cases hk : k = j
  · subst hk
    rw [if_pos rfl, if_pos t5] at hj'
    cases hj'
    rw [if_pos rfl, if_pos (by omega)]
    exact ⟨w, rfl, q2⟩
  · rw [if_neg hk] at hj' ⊢
    exact e5 j v' hj'
theorem es_ald {lo hi : Nat} (hlo : 50 ≤ lo) (hhi : hi ≤ 52) (hrow : ∀ (t : Nat), lo ≤ 50 + t → 50 + t ≤ hi → ∀ (H : Heap) (locs : List Loc) (k' n : Nat) (ls : Array Slot) (rest : List Value) (ws : va_W) (a q0 N : Nat) (f : Nat → Int32) (i : Int32), va_P D en_classes ws H → ws[q0]? = some (a, .inl (cA t, N, .inl f)) → vp_in i N → W p l e R s m args below meth c H locs k' n Q (F0 m (pc + len) ls (.int (f i.toNatClampNeg) :: rest)) → W p l e R s m args below meth c H locs k' n Q (F0 m pc ls (.int i :: .ref a :: rest))) : ev_sd p l e R s m args below meth c Q nL D cA A ads0 n0 s0 res call (eo_ald lo hi) pc len := by
  intro Kn Kj al st ns nc h hh hn hj
  have hq := ev_2_some hh
  clear hh
  obtain ⟨vi, vo, r, rfl, hh⟩ := hq
  have hq := ev_cell_some hh
  clear hh
  obtain ⟨t1, t2, hh⟩ := hq
  have hq := ev_if_some hh
  clear hh
  obtain ⟨t3, hh⟩ := hq
  have hq := ev_if_some hh
  clear hh
  obtain ⟨t4, hh⟩ := hq
  have t3 : lo ≤ (ev_hg h vo.2.1).1 := Nat.le_of_ble_eq_true t3
  have t4 : (ev_hg h vo.2.1).1 ≤ hi := Nat.le_of_ble_eq_true t4
  have hq := ev_nat_some hh
  clear hh
  obtain ⟨b0, b1, hh⟩ := hq
  have hq := ev_get_some hh
  clear hh
  obtain ⟨v, b2, hh⟩ := hq
  obtain ⟨g1, g2, g3⟩ := hn _ _ _ _ _ hh
  refine ⟨g1, g2, fun ads ws H locs ls vs hp h0 h1 hwo hS hfr hst => ?_⟩
  have hq := hst.cons
  clear hst
  obtain ⟨w, vs, rfl, q2, hst⟩ := hq
  have hq := hst.cons
  clear hst
  obtain ⟨w', vs, rfl, q3, hst⟩ := hq
  obtain ⟨i, rfl, ei, -⟩ := ev_rel.int (t := vi.1) (a := vi.2.1) (b := vi.2.2) q2 (by omega)
  obtain ⟨q, e1, rfl⟩ := ev_rel.ref (t := vo.1) (a := vo.2.1) (b := vo.2.2) q3 t1
  obtain ⟨en, e2, e3⟩ := hwo.cell t2 e1
  obtain ⟨f, rfl, e5⟩ := e3.arr (by omega) (by omega)
  have ei := ei b0
  subst ei
  have hl := (List.getElem?_eq_some_iff.mp b2).1
  have e7 := e5 _ v b2
  refine hrow ((ev_hg h vo.2.1).1 - 50) (by omega) (by omega) _ _ _ _ _ _ ws q _ _ f _ hwo.2.2.2.2.1 e2 (ev_in b1 hl) (g3 ads ws H locs ls _ hp h0 h1 hwo hS hfr ⟨?_, hst⟩)
  rw [ev_cl b1]
  exact e7
theorem es_iast (hrow : ∀ (H : Heap) (locs : List Loc) (k' n : Nat) (ls : Array Slot) (rest : List Value) (ws : va_W) (a q0 N : Nat) (f : Nat → Int32) (i x : Int32), va_P D en_classes ws H → va_D A ws → va_S A s.heap H locs → ws[q0]? = some (a, .inl (cA 0, N, .inl f)) → vp_in i N → (∀ (H1 : Heap) (locs1 : List Loc), va_P D en_classes (ws.set q0 (a, .inl (cA 0, N, .inl (upd f i.toNatClampNeg x)))) H1 → va_D A (ws.set q0 (a, .inl (cA 0, N, .inl (upd f i.toNatClampNeg x)))) → va_S A s.heap H1 locs1 → W p l e R s m args below meth c H1 locs1 k' n Q (F0 m (pc + len) ls rest)) → W p l e R s m args below meth c H locs k' n Q (F0 m pc ls (.int x :: .int i :: .ref a :: rest))) : ev_sd p l e R s m args below meth c Q nL D cA A ads0 n0 s0 res call eo_iast pc len := by
  intro Kn Kj al st ns nc h hh hn hj
  have hq := ev_3_some hh
  clear hh
  obtain ⟨v, vi, vo, r, rfl, hh⟩ := hq
  have hq := ev_cell_some hh
  clear hh
  obtain ⟨t1, t2, hh⟩ := hq
  have hq := ev_if_some hh
  clear hh
  obtain ⟨t3, hh⟩ := hq
  have t3 : (ev_hg h vo.2.1).1 = 50 := Nat.eq_of_beq_eq_true t3
  have hq := ev_if_some hh
  clear hh
  obtain ⟨t4, hh⟩ := hq
  have t4 : v.1 ≤ 1 := Nat.le_of_ble_eq_true t4
  have hq := ev_nat_some hh
  clear hh
  obtain ⟨b0, b1, hh⟩ := hq
  have hq := ev_put_some hh
  clear hh
  obtain ⟨t5, hh⟩ := hq
  obtain ⟨g1, g2, g3⟩ := hn _ _ _ _ _ hh
  refine ⟨g1, g2, fun ads ws H locs ls vs hp h0 h1 hwo hS hfr hst => ?_⟩
  have hq := hst.cons
  clear hst
  obtain ⟨w0, vs, rfl, q1, hst⟩ := hq
  have hq := hst.cons
  clear hst
  obtain ⟨w, vs, rfl, q2, hst⟩ := hq
  have hq := hst.cons
  clear hst
  obtain ⟨w', vs, rfl, q3, hst⟩ := hq
  obtain ⟨x, rfl, -⟩ := ev_rel.int (t := v.1) (a := v.2.1) (b := v.2.2) q1 t4
  obtain ⟨i, rfl, ei, -⟩ := ev_rel.int (t := vi.1) (a := vi.2.1) (b := vi.2.2) q2 (by omega)
  obtain ⟨q, e1, rfl⟩ := ev_rel.ref (t := vo.1) (a := vo.2.1) (b := vo.2.2) q3 t1
  obtain ⟨en, e2, e3⟩ := hwo.cell t2 e1
  obtain ⟨f, rfl, e5⟩ := e3.arr (by omega) (by omega)
  have ei := ei b0
  subst ei
  have e2' : ws[vo.2.1]? = some (q, .inl (cA 0, (ev_hg h vo.2.1).2.length, .inl f)) := by rw [e2, t3]
  refine hrow _ _ _ _ _ _ ws q _ _ f _ x hwo.2.2.2.2.1 hwo.2.2.2.2.2 hS e2' (ev_in b1 t5) fun H1 locs1 hP hD hS1 => ?_
  refine g3 ads _ H1 locs1 ls _ hp h0 h1 (hwo.set t2 e2' _ _ ?_ hP hD) hS1 hfr hst
  rw [ev_cl b1]
  refine Or.inr (Or.inl ⟨by omega, by omega, _, by rw [t3, List.length_set], fun j v' hj' => ?_⟩)
  rw [List.getElem?_set] at hj'
  by_cases hk : vi.2.1 = j
  · subst hk
    rw [if_pos rfl, if_pos t5] at hj'
    cases hj'
    simp only [upd, if_pos]
    exact q1
  · rw [if_neg hk] at hj'
    simp only [upd, if_neg (fun z => hk (Eq.symm z))]
    exact e5 j v' hj'
theorem es_bast (hrow : ∀ (t : Nat) (ty : FieldType), (t = 1 ∧ ty = .byte ∨ t = 2 ∧ ty = .boolean) → ∀ (H : Heap) (locs : List Loc) (k' n : Nat) (ls : Array Slot) (rest : List Value) (ws : va_W) (a q0 N : Nat) (f : Nat → Int32) (i x : Int32), va_P D en_classes ws H → va_D A ws → va_S A s.heap H locs → ws[q0]? = some (a, .inl (cA t, N, .inl f)) → vp_in i N → (∀ (H1 : Heap) (locs1 : List Loc), va_P D en_classes (ws.set q0 (a, .inl (cA t, N, .inl (upd f i.toNatClampNeg (vp_nar ty x))))) H1 → va_D A (ws.set q0 (a, .inl (cA t, N, .inl (upd f i.toNatClampNeg (vp_nar ty x))))) → va_S A s.heap H1 locs1 → W p l e R s m args below meth c H1 locs1 k' n Q (F0 m (pc + len) ls rest)) → W p l e R s m args below meth c H locs k' n Q (F0 m pc ls (.int x :: .int i :: .ref a :: rest))) : ev_sd p l e R s m args below meth c Q nL D cA A ads0 n0 s0 res call eo_bast pc len := by
  intro Kn Kj al st ns nc h hh hn hj
  have hq := ev_3_some hh
  clear hh
  obtain ⟨v, vi, vo, r, rfl, hh⟩ := hq
  have hq := ev_cell_some hh
  clear hh
  obtain ⟨t1, t2, hh⟩ := hq
  have hq := ev_nat_some hh
  clear hh
  obtain ⟨b0, b1, hh⟩ := hq
  have key : ∃ (t : Nat) (ty : FieldType), (t = 1 ∧ ty = .byte ∨ t = 2 ∧ ty = .boolean) ∧ (ev_hg h vo.2.1).1 = 50 + t ∧ (ev_un (vp_nar ty) v fun w => ev_put h vo.2.1 (ev_hg h vo.2.1).1 (ev_hg h vo.2.1).2 vi.2.1 w fun h' => Kn al r ns nc h') = some res := by
    by_cases hz : Nat.beq (ev_hg h vo.2.1).1 51 = true
    · rw [hz] at hh
      exact ⟨1, .byte, Or.inl ⟨rfl, rfl⟩, Nat.eq_of_beq_eq_true hz, hh⟩
    · rw [Bool.eq_false_iff.mpr hz] at hh
      simp only [] at hh
      have hq := ev_if_some hh
      clear hh
      obtain ⟨z1, hh⟩ := hq
      exact ⟨2, .boolean, Or.inr ⟨rfl, rfl⟩, Nat.eq_of_beq_eq_true z1, hh⟩
  clear hh
  obtain ⟨t, ty, hty, t3, hh⟩ := key
  have ht : t ≤ 2 := by omega
  have hq := ev_un_some hh
  clear hh
  obtain ⟨t4, cv, -, hh, hc⟩ := hq
  have hq := ev_put_some hh
  clear hh
  obtain ⟨t5, hh⟩ := hq
  obtain ⟨g1, g2, g3⟩ := hn _ _ _ _ _ hh
  refine ⟨g1, g2, fun ads ws H locs ls vs hp h0 h1 hwo hS hfr hst => ?_⟩
  have hq := hst.cons
  clear hst
  obtain ⟨w0, vs, rfl, q1, hst⟩ := hq
  have hq := hst.cons
  clear hst
  obtain ⟨w, vs, rfl, q2, hst⟩ := hq
  have hq := hst.cons
  clear hst
  obtain ⟨w', vs, rfl, q3, hst⟩ := hq
  obtain ⟨x, rfl, -⟩ := ev_rel.int (t := v.1) (a := v.2.1) (b := v.2.2) q1 t4
  obtain ⟨i, rfl, ei, -⟩ := ev_rel.int (t := vi.1) (a := vi.2.1) (b := vi.2.2) q2 (by omega)
  obtain ⟨q, e1, rfl⟩ := ev_rel.ref (t := vo.1) (a := vo.2.1) (b := vo.2.2) q3 t1
  obtain ⟨en, e2, e3⟩ := hwo.cell t2 e1
  obtain ⟨f, rfl, e5⟩ := e3.arr (by omega) (by omega)
  have ei := ei b0
  subst ei
  have e2' : ws[vo.2.1]? = some (q, .inl (cA t, (ev_hg h vo.2.1).2.length, .inl f)) := by rw [e2, t3, Nat.add_sub_cancel_left]
  refine hrow t ty hty _ _ _ _ _ _ ws q _ _ f _ x hwo.2.2.2.2.1 hwo.2.2.2.2.2 hS e2' (ev_in b1 t5) fun H1 locs1 hP hD hS1 => ?_
  refine g3 ads _ H1 locs1 ls _ hp h0 h1 (hwo.set t2 e2' _ _ ?_ hP hD) hS1 hfr hst
  rw [ev_cl b1]
  refine Or.inr (Or.inl ⟨by omega, by omega, _, by rw [t3, Nat.add_sub_cancel_left, List.length_set], fun j v' hj' => ?_⟩)
  rw [List.getElem?_set] at hj'
  by_cases hk : vi.2.1 = j
  · subst hk
    rw [if_pos rfl, if_pos t5] at hj'
    cases hj'
    simp only [upd, if_pos]
    exact hc ads x q1
  · rw [if_neg hk] at hj'
    simp only [upd, if_neg (fun z => hk (Eq.symm z))]
    exact e5 j v' hj'
theorem es_alen (hrow : ∀ (t : Nat), t < 4 → ∀ (H : Heap) (locs : List Loc) (k' n : Nat) (ls : Array Slot) (rest : List Value) (ws : va_W) (a q0 : Nat) (x : vp_A), va_P D en_classes ws H → ws[q0]? = some (a, .inl (cA t, x)) → W p l e R s m args below meth c H locs k' n Q (F0 m (pc + len) ls (.int (Int32.ofNat x.1) :: rest)) → W p l e R s m args below meth c H locs k' n Q (F0 m pc ls (.ref a :: rest))) : ev_sd p l e R s m args below meth c Q nL D cA A ads0 n0 s0 res call eo_alen pc len := by
  intro Kn Kj al st ns nc h hh hn hj
  have hq := ev_1_some hh
  clear hh
  obtain ⟨vo, r, rfl, hh⟩ := hq
  have hq := ev_cell_some hh
  clear hh
  obtain ⟨t1, t2, hh⟩ := hq
  have hq := ev_if_some hh
  clear hh
  obtain ⟨t3, hh⟩ := hq
  have t3 : 50 ≤ (ev_hg h vo.2.1).1 := Nat.le_of_ble_eq_true t3
  have hq := ev_if_some hh
  clear hh
  obtain ⟨t5, hh⟩ := hq
  have t5 : (ev_hg h vo.2.1).1 ≤ 53 := Nat.le_of_ble_eq_true t5
  rw [ev_fN_eq] at hh
  have hq := ev_if_some hh
  clear hh
  obtain ⟨t4, hh⟩ := hq
  obtain ⟨g1, g2, g3⟩ := hn _ _ _ _ _ hh
  refine ⟨g1, g2, fun ads ws H locs ls vs hp h0 h1 hwo hS hfr hst => ?_⟩
  have hq := hst.cons
  clear hst
  obtain ⟨w', vs, rfl, q3, hst⟩ := hq
  obtain ⟨q, e1, rfl⟩ := ev_rel.ref (t := vo.1) (a := vo.2.1) (b := vo.2.2) q3 t1
  obtain ⟨en, e2, e3⟩ := hwo.cell t2 e1
  have hg := g3 ads ws H locs ls (.int (Int32.ofNat (ev_hg h vo.2.1).2.length) :: vs) hp h0 h1 hwo hS hfr ⟨ev_rel.of ads _ 0, hst⟩
  rcases e3 with ⟨h, -⟩ | ⟨-, h2, f, rfl, -⟩ | ⟨h2, f, rfl⟩ | h
  · omega
  · exact hrow _ (show (ev_hg h vo.2.1).1 - 50 < 4 by omega) _ _ _ _ _ _ ws q _ _ hwo.2.2.2.2.1 e2 hg
  · exact hrow 3 (by omega) _ _ _ _ _ _ ws q _ _ hwo.2.2.2.2.1 e2 hg
  · omega
theorem ev_new_some {tag n : Nat} {fl : List ev_V} {Kn : ev_S} {al st : List ev_V} {ns nc : Nat} {h : ev_H} {r} (hh : ev_new tag fl n Kn al st ns nc h = some r) : nc < 256 ∧ Kn al ((2, nc, 0) :: st) (ns + n) (nc + 1) (ev_hs h nc (tag, fl)) = some r := by
  have hq := ev_if_some hh
  clear hh
  obtain ⟨h1, hh⟩ := hq
  rw [ev_fN_eq, ev_fN_eq, ev_tset_k] at hh
  exact ⟨by simpa using h1, hh⟩
theorem es_newa {tag : Nat} {v0 : ev_V} (t : Nat) (htag : tag = 50 + t) (a0 : Nat → vp_A) (hrel : ∀ (N : Nat) (ads : List Nat), ev_relC cA ads tag (List.replicate N v0) (.inl (cA t, a0 N))) (hcx : ev_cx p R s m args c cc own nL D cA A d n0 s0 res)
    (hrow : ∀ (H : Heap) (locs : List Loc) (k n : Nat) (ls : Array Slot) (rest : List Value) (ws : va_W) (N : Nat), N < 65536 → va_P D en_classes ws H → va_D A ws → va_S A s.heap H locs → k + 1 ≤ R.cells → n + N ≤ R.slots → (∀ (q : Nat) (H1 : Heap), va_P D en_classes (ws ++ [(q, .inl (cA t, a0 N))]) H1 → va_D A (ws ++ [(q, .inl (cA t, a0 N))]) → va_S A s.heap H1 locs → W p l e R s m args below meth c H1 locs (k + 1) (n + N) Q (F0 m (pc + len) ls (.ref q :: rest))) → W p l e R s m args below meth c H locs k n Q (F0 m pc ls (.int (ev_i N) :: rest))) : ev_sd p l e R s m args below meth c Q nL D cA A ads0 n0 s0 res call (eo_newa tag v0) pc len := by
  intro Kn Kj al st ns nc h hh hn hj
  have hq := ev_1_some hh
  clear hh
  obtain ⟨vn, r, rfl, hh⟩ := hq
  have hq := ev_nat_some hh
  clear hh
  obtain ⟨b0, b1, hh⟩ := hq
  rw [ev_fill_eq] at hh
  have hq := ev_new_some hh
  clear hh
  obtain ⟨b2, hh⟩ := hq
  obtain ⟨g1, g2, g3⟩ := hn _ _ _ _ _ hh
  refine ⟨by omega, by omega, fun ads ws H locs ls vs hp h0 h1 hwo hS hfr hst => ?_⟩
  have hq := hst.cons
  clear hst
  obtain ⟨w', vs, rfl, q3, hst⟩ := hq
  obtain ⟨i, rfl, ei, -⟩ := ev_rel.int (t := vn.1) (a := vn.2.1) (b := vn.2.2) q3 (by omega)
  have ei := ei b0
  subst ei
  obtain ⟨-, -, -, -, -, -, -, -, -, c1, c2, -⟩ := hcx
  refine hrow _ _ _ _ _ _ ws _ b1 hwo.2.2.2.2.1 hwo.2.2.2.2.2 hS (by omega) (by omega) fun q H1 hP hD hS1 => ?_
  have e1 : nc + 1 - n0 = nc - n0 + 1 := by omega
  have e2 : ns + vn.2.1 - s0 = ns - s0 + vn.2.1 := by omega
  have hpre : ∃ x, ads ++ [q] = ads ++ x := ⟨_, rfl⟩
  have hlen : ads.length = nc := by rw [← hwo.1, List.length_map]; exact hwo.2.1
  have hg := g3 (ads ++ [q]) _ H1 locs ls (.ref q :: vs) (by obtain ⟨x, rfl⟩ := hp; exact ⟨x ++ [q], by rw [List.append_assoc]⟩) (by omega) (by omega) (hwo.push b2 _ _ (hrel _ ads) hP hD) hS1 (hfr.mono hpre) ⟨ev_rel.at 0 (by rw [List.getElem?_append_right (by omega), hlen, Nat.sub_self]; rfl), hst.mono hpre⟩
  rw [e1, e2] at hg
  exact hg
theorem es_new {ci n : Nat} {fl : List ev_V} (fs0 : List Value) (hn' : fl.length = n) (hci : ci < 50) (hl : fs0.length = n) (hrel : ∀ (ads : List Nat) (j : Nat) (v : ev_V), fl[j]? = some v → ∃ w, fs0[j]? = some w ∧ ev_rel ads v w) (hcx : ev_cx p R s m args c cc own nL D cA A d n0 s0 res)
    (hrow : ∀ (H : Heap) (locs : List Loc) (k n' : Nat) (ls : Array Slot) (rest : List Value) (ws : va_W), va_P D en_classes ws H → va_D A ws → va_S A s.heap H locs → k + 1 ≤ R.cells → n' + n ≤ R.slots → (∀ (q : Nat) (H1 : Heap), va_P D en_classes (ws ++ [(q, .inr (ci, fs0))]) H1 → va_D A (ws ++ [(q, .inr (ci, fs0))]) → va_S A s.heap H1 locs → W p l e R s m args below meth c H1 locs (k + 1) (n' + n) Q (F0 m (pc + len) ls (.ref q :: rest))) → W p l e R s m args below meth c H locs k n' Q (F0 m pc ls rest)) : ev_sd p l e R s m args below meth c Q nL D cA A ads0 n0 s0 res call (eo_new ci fl n) pc len := by
  intro Kn Kj al st ns nc h hh hn hj
  have hq := ev_new_some hh
  clear hh
  obtain ⟨b2, hh⟩ := hq
  obtain ⟨g1, g2, g3⟩ := hn _ _ _ _ _ hh
  refine ⟨by omega, by omega, fun ads ws H locs ls vs hp h0 h1 hwo hS hfr hst => ?_⟩
  obtain ⟨-, -, -, -, -, -, -, -, -, c1, c2, -⟩ := hcx
  refine hrow _ _ _ _ _ _ ws hwo.2.2.2.2.1 hwo.2.2.2.2.2 hS (by omega) (by omega) fun q H1 hP hD hS1 => ?_
  have e1 : nc + 1 - n0 = nc - n0 + 1 := by omega
  have e2 : ns + n - s0 = ns - s0 + n := by omega
  have hpre : ∃ x, ads ++ [q] = ads ++ x := ⟨_, rfl⟩
  have hlen : ads.length = nc := by rw [← hwo.1, List.length_map]; exact hwo.2.1
  have hg := g3 (ads ++ [q]) _ H1 locs ls (.ref q :: vs) (by obtain ⟨x, rfl⟩ := hp; exact ⟨x ++ [q], by rw [List.append_assoc]⟩) (by omega) (by omega) (hwo.push b2 _ _ (Or.inl ⟨hci, fs0, rfl, by omega, hrel ads⟩) hP hD) hS1 (hfr.mono hpre) ⟨ev_rel.at 0 (by rw [List.getElem?_append_right (by omega), hlen, Nat.sub_self]; rfl), hst.mono hpre⟩
  rw [e1, e2] at hg
  exact hg
theorem es_obj (hrow : ∀ (H : Heap) (locs : List Loc) (k n : Nat) (ls : Array Slot) (rest : List Value) (a : Nat), ls.size = nL → (rest.map fun v => v.category).sum ≤ 8 → W p l e R s m args below meth c H locs k n Q (F0 m (pc + len) ls rest) → W p l e R s m args below meth c H locs k n Q (F0 m pc ls (.ref a :: rest))) : ev_sd p l e R s m args below meth c Q nL D cA A ads0 n0 s0 res call eo_obj pc len := by
  intro Kn Kj al st ns nc h hh hn hj
  have hq := ev_1_some hh
  clear hh
  obtain ⟨vo, r, rfl, hh⟩ := hq
  have hq := ev_if_some hh
  clear hh
  obtain ⟨t1, hh⟩ := hq
  have hq := ev_if_some hh
  clear hh
  obtain ⟨t2, hh⟩ := hq
  have t1 : vo.1 = 2 := Nat.eq_of_beq_eq_true t1
  obtain ⟨g1, g2, g3⟩ := hn _ _ _ _ _ hh
  refine ⟨g1, g2, fun ads ws H locs ls vs hp h0 h1 hwo hS hfr hst => ?_⟩
  have hq := hst.cons
  clear hst
  obtain ⟨w', vs, rfl, q3, hst⟩ := hq
  obtain ⟨q, e1, rfl⟩ := ev_rel.ref (t := vo.1) (a := vo.2.1) (b := vo.2.2) q3 t1
  exact hrow _ _ _ _ _ _ q hfr.2.choose_spec.1.1 (ev_small_ok hst t2) (g3 ads ws H locs ls _ hp h0 h1 hwo hS hfr hst)
end EvHeap
end
section
def ev_ret (ads : List Nat) (r : ev_V) (v : Option Value) : Prop := (r.1 = 9 ∧ v = none) ∨ (¬ r.1 = 9 ∧ ∃ w, v = some w ∧ ev_rel ads r w)
def ev_Qc (D : va_G) (cA : Nat → ClassId) (ads : List Nat) (ws : va_W) (sz : Nat) (res : ev_V × Nat × Nat × ev_H) : Array Value → State → Outcome → State → Prop := fun _ st oc t =>
  (∃ (ads' : List Nat) (ws' : va_W) (v : Option Value), oc = .returned v ∧ (∃ x, ads' = ads ++ x) ∧ ev_wo D cA (va_A ws sz) ads' ws' res.2.2.1 res.2.2.2 t.heap ∧ ev_ret ads' res.1 v) ∧ va_F (va_A ws sz) st t
def ev_Pc (D : va_G) (cA : Nat → ClassId) (ads : List Nat) (ws : va_W) (sz nc : Nat) (h : ev_H) (vs : List Value) : Array Value → State → Prop := va_Pc vs (fun U => U.heap.size = sz ∧ ev_wo D cA (fun _ => True) ads ws nc h U.heap ∧ va_K D en_classes (en_tys cA) U ∧ en_N U)
/-- a method's table: name, bytes, locals, return type -/
abbrev ev_M : Type := MethodName × ByteArray × Nat × Option FieldType
def ev_rm (d mc ms : Nat) : Room := { frames := d, cells := mc, slots := ms, locals := 60 * d }
def ev_ws (M : ev_M) : List Cond := .code M.1 M.2.1 M.2.2.1 M.2.2.2 :: en_WS
def ev_Met (l : Launch) (M : ev_M) (d : Nat) (as : List ev_V) (ns nc : Nat) (h : ev_H) (res : ev_V × Nat × Nat × ev_H) : Prop :=
  nc ≤ res.2.2.1 ∧ ns ≤ res.2.1 ∧ ∀ (D : va_G) (cA : Nat → ClassId) (ads : List Nat) (ws : va_W) (vs : List Value) (sz : Nat), ev_relS ads as vs →
    Met l M.1 (ev_ws M) (ev_rm d (res.2.2.1 - nc) (res.2.1 - ns)) (ev_Pc D cA ads ws sz nc h vs) (ev_Qc D cA ads ws sz res) (res.2.2.1 - nc) (res.2.1 - ns) (va_A ws sz)
theorem ev_Pc.blind {D : va_G} {cA : Nat → ClassId} {ads : List Nat} {ws : va_W} {sz nc : Nat} {h : ev_H} {vs : List Value} : FrameBlind (ev_Pc D cA ads ws sz nc h vs) := fun a U g mk q => by
  obtain ⟨q0, q1, q2, q3, q4⟩ := q
  exact ⟨q0, q1, q2, va_K.moved (u := U) (U := U.calling g mk a) (Vm.Alike.refl U.vm) q3, en_N.same (s := U) (U := U.calling g mk a) rfl q4⟩
theorem ev_wo.any {D : va_G} {cA : Nat → ClassId} {A : Nat → Prop} {ads : List Nat} {ws : va_W} {nc : Nat} {h : ev_H} {H : Heap} (hw : ev_wo D cA A ads ws nc h H) {B : Nat → Prop} (hB : ∀ (k : Nat) (q : Nat × va_E), ws[k]? = some q → A q.1 → B q.1) : ev_wo D cA B ads ws nc h H := by
  obtain ⟨h1, h2, h3, h4, h5, h6⟩ := hw
  exact ⟨h1, h2, h3, h4, h5, h6.weaken hB⟩
theorem ev_cut_some (n : Nat) : ∀ {acc st : List ev_V} {k : List ev_V → List ev_V → ev_R} {r}, ev_cut n acc st k = some r → ∃ q s', st = q ++ s' ∧ q.length = n ∧ k (q.reverse ++ acc) s' = some r := by
  induction n with
  | zero => intro acc st k r h; exact ⟨[], st, rfl, rfl, h⟩
  | succ n ih =>
    intro acc st k r h
    obtain ⟨v, s1, e1, h1⟩ := ev_1_some h
    obtain ⟨q, s2, e2, e3, h2⟩ := ih h1
    refine ⟨v :: q, s2, by rw [e1, e2]; rfl, by simp [e3], ?_⟩
    rw [List.reverse_cons, List.append_assoc]
    exact h2
theorem ev_relS.split {ads : List Nat} : ∀ {q st : List ev_V} {vs : List Value}, ev_relS ads (q ++ st) vs → ∃ a b, vs = a ++ b ∧ ev_relS ads q a ∧ ev_relS ads st b := by
  intro q
  induction q with
  | nil => intro st vs h; exact ⟨[], vs, rfl, trivial, h⟩
  | cons v q ih =>
    intro st vs h
    obtain ⟨w, ws, rfl, h1, h2⟩ := ev_relS.cons h
    obtain ⟨a, b, rfl, h3, h4⟩ := ih h2
    exact ⟨w :: a, b, rfl, ⟨h1, h3⟩, h4⟩
theorem ev_relS.rev {ads : List Nat} : ∀ {q : List ev_V} {a : List Value}, ev_relS ads q a → ev_relS ads q.reverse a.reverse := by
  intro q
  induction q with
  | nil => intro a h; rw [h.nil]; exact trivial
  | cons v q ih =>
    intro a h
    obtain ⟨w, ws, rfl, h1, h2⟩ := h.cons
    rw [List.reverse_cons, List.reverse_cons]
    exact (ih h2).append ⟨h1, trivial⟩
theorem ev_ok_some {x : ev_R} {k} {r} (h : ev_ok x k = some r) : ∃ q, x = some q ∧ k q.1 q.2.1 q.2.2.1 q.2.2.2 = some r := by
  cases x with
  | none => exact absurd h (by simp [ev_ok])
  | some q => exact ⟨q, rfl, h⟩
theorem ev_back_some {v : ev_V} {Kn : ev_S} {al r : List ev_V} {ns nc : Nat} {h : ev_H} {x} (hh : ev_back v Kn al r ns nc h = some x) : (v.1 = 9 ∧ Kn al r ns nc h = some x) ∨ (¬ v.1 = 9 ∧ Kn al (v :: r) ns nc h = some x) := by
  unfold ev_back ev_p at hh
  obtain ⟨t, a, b⟩ := v
  simp only [] at hh
  by_cases hz : Nat.beq t 9 = true
  · rw [hz] at hh
    exact Or.inl ⟨Nat.eq_of_beq_eq_true hz, hh⟩
  · rw [Bool.eq_false_iff.mpr hz] at hh
    refine Or.inr ⟨fun z => hz (by rw [show t = 9 from z]; rfl), hh⟩
theorem ev_drop_some (n : Nat) : ∀ {f : List ev_V} {k : List ev_V → ev_R} {r}, ev_drop n f k = some r → n ≤ f.length ∧ k (f.drop n) = some r := by
  induction n with
  | zero => intro f k r h; exact ⟨Nat.zero_le _, h⟩
  | succ n ih =>
    intro f k r h
    obtain ⟨v, f', e1, h1⟩ := ev_1_some h
    obtain ⟨h2, h3⟩ := ih h1
    subst e1
    exact ⟨by simpa using h2, h3⟩
theorem ev_cpy_some (n : Nat) : ∀ {f g : List ev_V} {j : Nat} {k : List ev_V → ev_R} {r}, ev_cpy n f g j k = some r → ∃ g', k g' = some r ∧ g'.length = g.length ∧ n ≤ f.length ∧ (0 < n → j + n ≤ g.length) ∧ ∀ i, g'[i]? = if j ≤ i ∧ i < j + n then f[i - j]? else g[i]? := by
  induction n with
  | zero =>
    intro f g j k r h
    exact ⟨g, h, rfl, Nat.zero_le _, fun z => absurd z (by omega), fun i => by rw [if_neg (by omega)]⟩
  | succ n ih =>
    intro f g j k r h
    obtain ⟨v, f', e1, h1⟩ := ev_1_some h
    obtain ⟨h2, h3⟩ := ev_setK_some h1
    obtain ⟨g', q1, q2, q3, q4, q5⟩ := ih h3
    subst e1
    refine ⟨g', q1, by rw [q2, List.length_set], by simpa using q3, fun _ => ?_, fun i => ?_⟩
    · rw [List.length_set] at q4
      by_cases hn : 0 < n
      · have := q4 hn; omega
      · omega
    · rw [q5 i, List.getElem?_set]
      by_cases hi : j = i
      · subst hi
        rw [if_neg (by omega), if_pos rfl, if_pos h2, if_pos (by omega), Nat.sub_self]
        rfl
      · rw [if_neg hi]
        by_cases hr : j + 1 ≤ i ∧ i < j + 1 + n
        · rw [if_pos (show j.succ ≤ i ∧ i < j.succ + n from hr), if_pos (by omega), show i - j = (i - j.succ) + 1 by omega, List.getElem?_cons_succ]
        · rw [if_neg (show ¬ (j.succ ≤ i ∧ i < j.succ + n) from hr), if_neg (by omega)]
section EvCalls
variable {p : Program} {l : Launch} {e : Env} {R : Room} {s : State} {m : MethodId} {args : Array Value} {below : List Frame} {meth : Method} {c : Code} {Q : State → Prop}
variable {cc : ByteArray} {own : String} {nL : Nat} {D : va_G} {cA : Nat → ClassId} {A : Nat → Prop} {ads0 : List Nat} {n0 s0 d : Nat} {res : ev_V × Nat × Nat × ev_H} {call : ev_Call} {pc len : Nat}
theorem ev_call {H H0 : Heap} {locs : List Loc} {cells slots mc ms : Nat} {ls : Array Slot} {st0 rest : List Value} {Qa : State → Outcome → State → Prop} {A0 A1 : Nat → Prop} {free : Addr → Prop} (hr : va_Run p l e R s m args below meth c H locs cells slots mc ms (F0 m pc ls st0) rest Qa free) (hq : ∀ st oc t, Qa st oc t → va_F A1 st t) (hS : va_S A0 H0 H locs) (hA : ∀ q, A1 q → A0 q) (hf : ∀ q, free q → A0 q)
    (kk : ∀ (v : Option Value) (st t : State) (locs1 : List Loc), Qa st (.returned v) t → s.vm.Alike t.vm → va_S A0 H0 t.heap locs1 → W p l e R s m args below meth c t.heap locs1 (cells + mc) (slots + ms) Q (F0 m (pc + 3) ls (v.toList ++ rest))) : W p l e R s m args below meth c H locs cells slots Q (F0 m pc ls st0) := by
  intro T hT X
  obtain ⟨v, st₀, t, T', L, h0, X', hL, e1, e2, hqa, st⟩ := hr T hT X
  obtain ⟨hz, hk⟩ := hq _ _ _ hqa
  rw [h0] at hz hk
  obtain ⟨t2, a1, b1⟩ := kk v st₀ t (locs ++ L) hqa (by rw [← e2]; exact X'.warmed.alike)
    ⟨Nat.le_trans hS.1 hz, fun q h1 h2 => by rw [hk q (Nat.lt_of_lt_of_le h1 hS.1) (fun z => h2 (hA q z))]; exact hS.2.1 q h1 h2, fun q hq => by
      rcases List.mem_append.mp hq with h | h
      · exact hS.2.2 q h
      · exact hf _ (hL q h)⟩ T' e1 X'
  exact ⟨t2, st t2 a1, b1⟩
/-- behind a call: the world is what the callee says, the rest of the frame stays -/
theorem es_back (hcx : ev_cx p R s m args c cc own nL D cA A d n0 s0 res) {Kn : ev_S} {al r : List ev_V} {ns nc : Nat} {h : ev_H} {q : ev_V × Nat × Nat × ev_H}
    (hn : ∀ al st ns nc h, Kn al st ns nc h = some res → ev_gd p l e R s m args below meth c Q nL D cA A ads0 n0 s0 res (pc + 3) al st ns nc h)
    (hh : (q.1.1 = 9 ∧ Kn al r q.2.1 q.2.2.1 q.2.2.2 = some res) ∨ (¬ q.1.1 = 9 ∧ Kn al (q.1 :: r) q.2.1 q.2.2.1 q.2.2.2 = some res)) (hm1 : nc ≤ q.2.2.1) (hm2 : ns ≤ q.2.1)
    {ads : List Nat} {ws : va_W} {H : Heap} {locs : List Loc} {ls : Array Slot} {vs st0 : List Value} (hp : ∃ x, ads = ads0 ++ x) (h0 : n0 ≤ nc) (h1 : s0 ≤ ns) (hwo : ev_wo D cA A ads ws nc h H) (hS : va_S A s.heap H locs) (hfr : ev_fr ads nL al ls) (hst : ev_relS ads r vs) {a : Array Value}
    (hr : q.2.2.1 - n0 ≤ R.cells → q.2.1 - s0 ≤ R.slots → va_Run p l e R s m args below meth c H locs (nc - n0) (ns - s0) (q.2.2.1 - nc) (q.2.1 - ns) (F0 m pc ls st0) vs (ev_Qc D cA ads ws H.size q a) (va_A ws H.size)) : W p l e R s m args below meth c H locs (nc - n0) (ns - s0) Q (F0 m pc ls st0) := by
  have hmm : q.2.2.1 ≤ res.2.2.1 ∧ q.2.1 ≤ res.2.1 := by
    rcases hh with ⟨-, z⟩ | ⟨-, z⟩
    · exact ⟨(hn _ _ _ _ _ z).1, (hn _ _ _ _ _ z).2.1⟩
    · exact ⟨(hn _ _ _ _ _ z).1, (hn _ _ _ _ _ z).2.1⟩
  obtain ⟨-, -, -, -, -, hA, -, -, -, c1, c2, -⟩ := hcx
  have hAA : ∀ x, va_A ws H.size x → A x := by
    intro x hx
    rcases hx with ⟨k, en, hk⟩ | hx
    · exact hwo.2.2.2.2.2.2 k _ hk
    · exact hA x (Nat.le_trans hS.1 hx)
  refine ev_call (hr (by omega) (by omega)) (A1 := va_A ws H.size) (fun st oc t hq => hq.2) hS hAA hAA ?_
  intro v st t locs1 hq hvm hS1
  obtain ⟨⟨ads', ws', v', hv, hpre, hwo', hret⟩, -⟩ := hq
  cases hv
  have e1 : nc - n0 + (q.2.2.1 - nc) = q.2.2.1 - n0 := by omega
  have e2 : ns - s0 + (q.2.1 - ns) = q.2.1 - s0 := by omega
  rw [e1, e2]
  have hwo2 := hwo'.any (B := A) (fun k x _ hx => hAA _ hx)
  have hp2 : ∃ x, ads' = ads0 ++ x := by
    obtain ⟨x, rfl⟩ := hp
    obtain ⟨y, rfl⟩ := hpre
    exact ⟨x ++ y, by rw [List.append_assoc]⟩
  rcases hh with ⟨z1, z2⟩ | ⟨z1, z2⟩
  · rcases hret with ⟨-, rfl⟩ | ⟨hx, -⟩
    · exact (hn _ _ _ _ _ z2).2.2 ads' ws' _ locs1 ls _ hp2 (by omega) (by omega) hwo2 hS1 (hfr.mono hpre) (hst.mono hpre)
    · exact absurd z1 hx
  · rcases hret with ⟨hx, -⟩ | ⟨-, w, rfl, hw⟩
    · exact absurd hx z1
    · exact (hn _ _ _ _ _ z2).2.2 ads' ws' _ locs1 ls _ hp2 (by omega) (by omega) hwo2 hS1 (hfr.mono hpre) ⟨hw, hst.mono hpre⟩
theorem ev_mono {Kn : ev_S} {al r : List ev_V} {ns nc : Nat} {q : ev_V × Nat × Nat × ev_H}
    (hn : ∀ al st ns nc h, Kn al st ns nc h = some res → ev_gd p l e R s m args below meth c Q nL D cA A ads0 n0 s0 res (pc + 3) al st ns nc h)
    (hh : (q.1.1 = 9 ∧ Kn al r q.2.1 q.2.2.1 q.2.2.2 = some res) ∨ (¬ q.1.1 = 9 ∧ Kn al (q.1 :: r) q.2.1 q.2.2.1 q.2.2.2 = some res)) (hm1 : nc ≤ q.2.2.1) (hm2 : ns ≤ q.2.1) : nc ≤ res.2.2.1 ∧ ns ≤ res.2.1 := by
  rcases hh with ⟨-, z⟩ | ⟨-, z⟩
  · exact ⟨Nat.le_trans hm1 (hn _ _ _ _ _ z).1, Nat.le_trans hm2 (hn _ _ _ _ _ z).2.1⟩
  · exact ⟨Nat.le_trans hm1 (hn _ _ _ _ _ z).1, Nat.le_trans hm2 (hn _ _ _ _ _ z).2.1⟩
theorem es_virt {k n ci N : Nat} {C : String} {T : u_T} {M : ev_M} (hlen : len = 3) (hci : ci < 50) (hC : en_classes[ci]? = some (C, T, N)) (hcx : ev_cx p R s m args c cc own nL D cA A d n0 s0 res) (hcall : ∀ as ns nc h r, call k as ns nc h = some r → ev_Met l M d as ns nc h r)
    (hrun : ∀ (H : Heap) (locs : List Loc) (cells slots mc ms : Nat) (ls : Array Slot) (rest As : List Value) (b : Nat) (Pc : Array Value → State → Prop) (Qc : Array Value → State → Outcome → State → Prop) (free : Addr → Prop), Met l M.1 (ev_ws M) (ev_rm d mc ms) Pc Qc mc ms free → PreV s H C b Pc As → As.length = n → ls.size = nL → (rest.map fun v => v.category).sum ≤ 8 → cells + mc ≤ R.cells ∧ slots + ms ≤ R.slots → va_Run p l e R s m args below meth c H locs cells slots mc ms (F0 m pc ls (As.reverse ++ .ref b :: rest)) rest (Qc (Value.ref b :: As).toArray) free) : ev_sd p l e R s m args below meth c Q nL D cA A ads0 n0 s0 res call (eo_virt k n ci) pc len := by
  subst hlen
  intro Kn Kj al st ns nc h hh hn hj
  have hq := ev_cut_some n hh
  clear hh
  obtain ⟨qs, s1, rfl, hqn, hh⟩ := hq
  have hq := ev_1_some hh
  clear hh
  obtain ⟨vo, r, rfl, hh⟩ := hq
  have hq := ev_cell_some hh
  clear hh
  obtain ⟨t1, t2, hh⟩ := hq
  have hq := ev_if_some hh
  clear hh
  obtain ⟨t3, hh⟩ := hq
  have t3 : (ev_hg h vo.2.1).1 = ci := Nat.eq_of_beq_eq_true t3
  have hq := ev_if_some hh
  clear hh
  obtain ⟨t4, hh⟩ := hq
  have hq := ev_ok_some hh
  clear hh
  obtain ⟨q, hq, hh⟩ := hq
  have hh := ev_back_some hh
  obtain ⟨m1, m2, hmet⟩ := hcall _ _ _ _ _ hq
  refine ⟨(ev_mono hn hh m1 m2).1, (ev_mono hn hh m1 m2).2, fun ads ws H locs ls vs hp h0 h1 hwo hS hfr hst => ?_⟩
  have hq := hst.split
  clear hst
  obtain ⟨aq, vs1, rfl, hs1, hst⟩ := hq
  have hq := hst.cons
  clear hst
  obtain ⟨w', vs, rfl, q3, hst⟩ := hq
  obtain ⟨b, e1, rfl⟩ := ev_rel.ref (t := vo.1) (a := vo.2.1) (b := vo.2.2) q3 t1
  obtain ⟨en, e2, e3⟩ := hwo.cell t2 e1
  obtain ⟨fs, rfl, -, -⟩ := e3.obj (by omega)
  rw [t3] at e2
  have hM := hmet D cA ads ws (.ref b :: aq.reverse) H.size ⟨q3, by simpa using hs1.rev⟩
  refine es_back hcx hn hh m1 m2 hp h0 h1 hwo hS hfr hst (a := (Value.ref b :: aq.reverse).toArray) fun b1 b2 => ?_
  have hK := hcx.2.2.2.2.1
  have hNw := hcx.2.2.2.2.2.2.2.2.2.2.2
  have := hrun H locs (nc - n0) (ns - s0) _ _ ls vs aq.reverse b _ _ _ hM ⟨ev_Pc.blind, va_recv hK hwo.2.2.2.2.1 hC e2, fun U hU hW => ⟨rfl, by rw [hU], by rw [hU]; exact hwo.any (fun _ _ _ _ => trivial), va_K.moved hW.alike hK, hNw.warm hW⟩⟩ (by rw [List.length_reverse, hs1.len]; exact hqn) hfr.2.choose_spec.1.1 (ev_small_ok hst t4) ⟨by omega, by omega⟩
  rw [List.reverse_reverse] at this
  exact this
theorem es_stat {k n : Nat} {M : ev_M} (hlen : len = 3) (hcx : ev_cx p R s m args c cc own nL D cA A d n0 s0 res) (hcall : ∀ as ns nc h r, call k as ns nc h = some r → ev_Met l M d as ns nc h r)
    (hrun : ∀ (H : Heap) (locs : List Loc) (cells slots mc ms : Nat) (ls : Array Slot) (rest As : List Value) (Pc : Array Value → State → Prop) (Qc : Array Value → State → Outcome → State → Prop) (free : Addr → Prop), Met l M.1 (ev_ws M) (ev_rm d mc ms) Pc Qc mc ms free → PreS s H Pc As → As.length = n → ls.size = nL → (rest.map fun v => v.category).sum ≤ 8 → cells + mc ≤ R.cells ∧ slots + ms ≤ R.slots → va_Run p l e R s m args below meth c H locs cells slots mc ms (F0 m pc ls (As.reverse ++ rest)) rest (Qc As.toArray) free) : ev_sd p l e R s m args below meth c Q nL D cA A ads0 n0 s0 res call (eo_stat k n) pc len := by
  subst hlen
  intro Kn Kj al st ns nc h hh hn hj
  have hq := ev_cut_some n hh
  clear hh
  obtain ⟨qs, r, rfl, hqn, hh⟩ := hq
  have hq := ev_if_some hh
  clear hh
  obtain ⟨t4, hh⟩ := hq
  have hq := ev_ok_some hh
  clear hh
  obtain ⟨q, hq, hh⟩ := hq
  have hh := ev_back_some hh
  obtain ⟨m1, m2, hmet⟩ := hcall _ _ _ _ _ hq
  refine ⟨(ev_mono hn hh m1 m2).1, (ev_mono hn hh m1 m2).2, fun ads ws H locs ls vs hp h0 h1 hwo hS hfr hst => ?_⟩
  have hq := hst.split
  clear hst
  obtain ⟨aq, vs, rfl, hs1, hst⟩ := hq
  have hM := hmet D cA ads ws aq.reverse H.size (by simpa using hs1.rev)
  refine es_back hcx hn hh m1 m2 hp h0 h1 hwo hS hfr hst (a := (aq.reverse).toArray) fun b1 b2 => ?_
  have hK := hcx.2.2.2.2.1
  have hNw := hcx.2.2.2.2.2.2.2.2.2.2.2
  have := hrun H locs (nc - n0) (ns - s0) _ _ ls vs aq.reverse _ _ _ hM ⟨ev_Pc.blind, fun U hU hW => ⟨rfl, by rw [hU], by rw [hU]; exact hwo.any (fun _ _ _ _ => trivial), va_K.moved hW.alike hK, hNw.warm hW⟩⟩ (by rw [List.length_reverse, hs1.len]; exact hqn) hfr.2.choose_spec.1.1 (ev_small_ok hst t4) ⟨by omega, by omega⟩
  rw [List.reverse_reverse] at this
  exact this
theorem es_spec {k n : Nat} {M : ev_M} (hlen : len = 3) (hcx : ev_cx p R s m args c cc own nL D cA A d n0 s0 res) (hcall : ∀ as ns nc h r, call k as ns nc h = some r → ev_Met l M d as ns nc h r)
    (hrun : ∀ (H : Heap) (locs : List Loc) (cells slots mc ms : Nat) (ls : Array Slot) (rest As : List Value) (b : Nat) (Pc : Array Value → State → Prop) (Qc : Array Value → State → Outcome → State → Prop) (free : Addr → Prop), Met l M.1 (ev_ws M) (ev_rm d mc ms) Pc Qc mc ms free → PreS s H Pc (.ref b :: As) → As.length = n → ls.size = nL → (rest.map fun v => v.category).sum ≤ 8 → cells + mc ≤ R.cells ∧ slots + ms ≤ R.slots → va_Run p l e R s m args below meth c H locs cells slots mc ms (F0 m pc ls (As.reverse ++ .ref b :: rest)) rest (Qc (Value.ref b :: As).toArray) free) : ev_sd p l e R s m args below meth c Q nL D cA A ads0 n0 s0 res call (eo_spec k n) pc len := by
  subst hlen
  intro Kn Kj al st ns nc h hh hn hj
  have hq := ev_cut_some n hh
  clear hh
  obtain ⟨qs, s1, rfl, hqn, hh⟩ := hq
  have hq := ev_1_some hh
  clear hh
  obtain ⟨vo, r, rfl, hh⟩ := hq
  have hq := ev_if_some hh
  clear hh
  obtain ⟨t1, hh⟩ := hq
  have t1 : vo.1 = 2 := Nat.eq_of_beq_eq_true t1
  have hq := ev_if_some hh
  clear hh
  obtain ⟨t4, hh⟩ := hq
  have hq := ev_ok_some hh
  clear hh
  obtain ⟨q, hq, hh⟩ := hq
  have hq := ev_if_some hh
  clear hh
  obtain ⟨t5, hh⟩ := hq
  have hh : (q.1.1 = 9 ∧ Kn al r q.2.1 q.2.2.1 q.2.2.2 = some res) ∨ (¬ q.1.1 = 9 ∧ Kn al (q.1 :: r) q.2.1 q.2.2.1 q.2.2.2 = some res) := Or.inl ⟨Nat.eq_of_beq_eq_true t5, hh⟩
  obtain ⟨m1, m2, hmet⟩ := hcall _ _ _ _ _ hq
  refine ⟨(ev_mono hn hh m1 m2).1, (ev_mono hn hh m1 m2).2, fun ads ws H locs ls vs hp h0 h1 hwo hS hfr hst => ?_⟩
  have hq := hst.split
  clear hst
  obtain ⟨aq, vs1, rfl, hs1, hst⟩ := hq
  have hq := hst.cons
  clear hst
  obtain ⟨w', vs, rfl, q3, hst⟩ := hq
  obtain ⟨b, e1, rfl⟩ := ev_rel.ref (t := vo.1) (a := vo.2.1) (b := vo.2.2) q3 t1
  have hM := hmet D cA ads ws (.ref b :: aq.reverse) H.size ⟨q3, by simpa using hs1.rev⟩
  refine es_back hcx hn hh m1 m2 hp h0 h1 hwo hS hfr hst (a := (Value.ref b :: aq.reverse).toArray) fun b1 b2 => ?_
  have hK := hcx.2.2.2.2.1
  have hNw := hcx.2.2.2.2.2.2.2.2.2.2.2
  have := hrun H locs (nc - n0) (ns - s0) _ _ ls vs aq.reverse b _ _ _ hM ⟨ev_Pc.blind, fun U hU hW => ⟨rfl, by rw [hU], by rw [hU]; exact hwo.any (fun _ _ _ _ => trivial), va_K.moved hW.alike hK, hNw.warm hW⟩⟩ (by rw [List.length_reverse, hs1.len]; exact hqn) hfr.2.choose_spec.1.1 (ev_small_ok hst t4) ⟨by omega, by omega⟩
  rw [List.reverse_reverse] at this
  exact this
theorem es_copy (hrow : ∀ (H : Heap) (locs : List Loc) (k' n' : Nat) (ls : Array Slot) (rest : List Value) (ws : va_W) (a0 a1 q0 q1 N0 N1 : Nat) (f g : Nat → Int32) (sp dp n : Int32), va_P D en_classes ws H → va_D A ws → va_S A s.heap H locs → ws[q0]? = some (a0, .inl (cA 0, N0, .inl f)) → ws[q1]? = some (a1, .inl (cA 0, N1, .inl g)) → ¬ sp < 0 → ¬ dp < 0 → ¬ n < 0 → sp.toNatClampNeg + n.toNatClampNeg ≤ N0 → dp.toNatClampNeg + n.toNatClampNeg ≤ N1 → ls.size = nL → (rest.map fun v => v.category).sum ≤ 8 →
    (∀ (H1 : Heap) (locs1 : List Loc), va_P D en_classes (ws.set q1 (a1, .inl (cA 0, N1, .inl (va_cpy f g sp.toNatClampNeg dp.toNatClampNeg n.toNatClampNeg)))) H1 → va_D A (ws.set q1 (a1, .inl (cA 0, N1, .inl (va_cpy f g sp.toNatClampNeg dp.toNatClampNeg n.toNatClampNeg)))) → va_S A s.heap H1 locs1 → W p l e R s m args below meth c H1 locs1 k' n' Q (F0 m (pc + len) ls rest)) → W p l e R s m args below meth c H locs k' n' Q (F0 m pc ls (.int n :: .int dp :: .ref a1 :: .int sp :: .ref a0 :: rest))) : ev_sd p l e R s m args below meth c Q nL D cA A ads0 n0 s0 res call eo_copy pc len := by
  intro Kn Kj al st ns nc h hh hn hj
  have hq := ev_3_some hh
  clear hh
  obtain ⟨vn, vd, v1, r1, rfl, hh⟩ := hq
  have hq := ev_2_some hh
  clear hh
  obtain ⟨vs0, v0, r, rfl, hh⟩ := hq
  have hq := ev_if_some hh
  clear hh
  obtain ⟨t4, hh⟩ := hq
  have hq := ev_cell_some hh
  clear hh
  obtain ⟨t1, t2, hh⟩ := hq
  have hq := ev_cell_some hh
  clear hh
  obtain ⟨u1, u2, hh⟩ := hq
  have hq := ev_if_some hh
  clear hh
  obtain ⟨x1, hh⟩ := hq
  have hq := ev_if_some hh
  clear hh
  obtain ⟨x2, hh⟩ := hq
  have x1 : (ev_hg h v0.2.1).1 = 50 := Nat.eq_of_beq_eq_true x1
  have x2 : (ev_hg h v1.2.1).1 = 50 := Nat.eq_of_beq_eq_true x2
  have hq := ev_if_some hh
  clear hh
  obtain ⟨x3, hh⟩ := hq
  have hq := ev_nat_some hh
  clear hh
  obtain ⟨a0, a1, hh⟩ := hq
  have hq := ev_nat_some hh
  clear hh
  obtain ⟨b0, b1, hh⟩ := hq
  have hq := ev_nat_some hh
  clear hh
  obtain ⟨c0, c1, hh⟩ := hq
  have hq := ev_if_some hh
  clear hh
  obtain ⟨c2, hh⟩ := hq
  have c2 : 0 < vn.2.1 := by simpa using c2
  have hq := ev_drop_some _ hh
  clear hh
  obtain ⟨d1, hh⟩ := hq
  have hq := ev_cpy_some _ hh
  clear hh
  obtain ⟨g', hh, y1, y2, y3, y4⟩ := hq
  rw [ev_tset_k] at hh
  obtain ⟨g1, g2, g3⟩ := hn _ _ _ _ _ hh
  refine ⟨g1, g2, fun ads ws H locs ls vs hp h0 h1 hwo hS hfr hst => ?_⟩
  have hq := hst.cons
  clear hst
  obtain ⟨w1, vs, rfl, q1, hst⟩ := hq
  have hq := hst.cons
  clear hst
  obtain ⟨w2, vs, rfl, q2, hst⟩ := hq
  have hq := hst.cons
  clear hst
  obtain ⟨w3, vs, rfl, q3, hst⟩ := hq
  have hq := hst.cons
  clear hst
  obtain ⟨w4, vs, rfl, q4, hst⟩ := hq
  have hq := hst.cons
  clear hst
  obtain ⟨w5, vs, rfl, q5, hst⟩ := hq
  obtain ⟨n, rfl, en, -⟩ := ev_rel.int (t := vn.1) (a := vn.2.1) (b := vn.2.2) q1 (by omega)
  obtain ⟨dp, rfl, ed, -⟩ := ev_rel.int (t := vd.1) (a := vd.2.1) (b := vd.2.2) q2 (by omega)
  obtain ⟨sp, rfl, es, -⟩ := ev_rel.int (t := vs0.1) (a := vs0.2.1) (b := vs0.2.2) q4 (by omega)
  obtain ⟨ad1, e1, rfl⟩ := ev_rel.ref (t := v1.1) (a := v1.2.1) (b := v1.2.2) q3 u1
  obtain ⟨ad0, e2, rfl⟩ := ev_rel.ref (t := v0.1) (a := v0.2.1) (b := v0.2.2) q5 t1
  have en := en c0
  have ed := ed b0
  have es := es a0
  subst en; subst ed; subst es
  obtain ⟨en1, f1, f2⟩ := hwo.cell u2 e1
  obtain ⟨en0, f3, f4⟩ := hwo.cell t2 e2
  obtain ⟨g, rfl, f5⟩ := f2.arr (by omega) (by omega)
  obtain ⟨f, rfl, f6⟩ := f4.arr (by omega) (by omega)
  rw [x2] at f1
  rw [x1] at f3
  rw [List.length_drop] at y2
  have y3 := y3 c2
  have k1 := ev_cl a1
  have k2 := ev_cl b1
  have k3 := ev_cl c1
  refine hrow _ _ _ _ _ _ ws ad0 ad1 _ _ _ _ f g _ _ _ hwo.2.2.2.2.1 hwo.2.2.2.2.2 hS f3 f1 (nI_pos (show vs0.2.1 < 2 ^ 31 by omega)) (nI_pos (show vd.2.1 < 2 ^ 31 by omega)) (nI_pos (show vn.2.1 < 2 ^ 31 by omega)) (by omega) (by omega) hfr.2.choose_spec.1.1 (ev_small_ok hst t4) fun H1 locs1 hP hD hS1 => ?_
  refine g3 ads _ H1 locs1 ls _ hp h0 h1 (hwo.set u2 f1 _ _ ?_ hP hD) hS1 hfr hst
  rw [k1, k2, k3]
  refine Or.inr (Or.inl ⟨by omega, by omega, _, by rw [y1], fun j v' hj' => ?_⟩)
  rw [y4 j] at hj'
  simp only [va_cpy]
  by_cases hr : vd.2.1 ≤ j ∧ j < vd.2.1 + vn.2.1
  · rw [if_pos hr] at hj' ⊢
    rw [List.getElem?_drop] at hj'
    exact f6 _ v' hj'
  · rw [if_neg hr] at hj' ⊢
    exact f5 j v' hj'
theorem es_min (hcx : ev_cx p R s m args c cc own nL D cA A d n0 s0 res) (hrow : ∀ (H : Heap) (locs : List Loc) (k n : Nat) (ls : Array Slot) (rest : List Value) (x y : Int32), ls.size = nL → (rest.map fun v => v.category).sum ≤ 8 → k ≤ R.cells → n ≤ R.slots → W p l e R s m args below meth c H locs k n Q (F0 m (pc + len) ls (.int (eb_min x y) :: rest)) → W p l e R s m args below meth c H locs k n Q (F0 m pc ls (.int y :: .int x :: rest))) : ev_sd p l e R s m args below meth c Q nL D cA A ads0 n0 s0 res call eo_min pc len := by
  intro Kn Kj al st ns nc h hh hn hj
  have hq := ev_2_some hh
  clear hh
  obtain ⟨vb, va, r, rfl, hh⟩ := hq
  have hq := ev_if_some hh
  clear hh
  obtain ⟨t4, hh⟩ := hq
  have hq := ev_bin_some hh
  clear hh
  obtain ⟨e1, e2, cv, hh, hc⟩ := hq
  obtain ⟨g1, g2, g3⟩ := hn _ _ _ _ _ hh
  refine ⟨g1, g2, fun ads ws H locs ls vs hp h0 h1 hwo hS hfr hst => ?_⟩
  have hq := hst.cons
  clear hst
  obtain ⟨w, vs, rfl, q2, hst⟩ := hq
  have hq := hst.cons
  clear hst
  obtain ⟨w', vs, rfl, q3, hst⟩ := hq
  obtain ⟨y, rfl, -⟩ := ev_rel.int (t := vb.1) (a := vb.2.1) (b := vb.2.2) q2 e2
  obtain ⟨x, rfl, -⟩ := ev_rel.int (t := va.1) (a := va.2.1) (b := va.2.2) q3 e1
  obtain ⟨-, -, -, -, -, -, -, -, -, c1, c2, -⟩ := hcx
  exact hrow _ _ _ _ _ _ x y hfr.2.choose_spec.1.1 (ev_small_ok hst t4) (by omega) (by omega) (g3 ads ws H locs ls _ hp h0 h1 hwo hS hfr ⟨hc ads x y q3 q2, hst⟩)
theorem es_iret {kd : Nat} (hfin : ∀ (ads : List Nat) (ws : va_W) (H : Heap) (locs : List Loc) (ls : Array Slot) (w : Value), (∃ x, ads = ads0 ++ x) → ev_wo D cA A ads ws res.2.2.1 res.2.2.2 H → va_S A s.heap H locs → ¬ res.1.1 = 9 → ev_rel ads res.1 w → ev_fits kd w → W p l e R s m args below meth c H locs (res.2.2.1 - n0) (res.2.1 - s0) Q (F0 m pc ls [w])) : ev_sd p l e R s m args below meth c Q nL D cA A ads0 n0 s0 res call (eo_iret kd) pc len := by
  intro Kn Kj al st ns nc h hh hn hj
  have hq := ev_1_some hh
  clear hh
  obtain ⟨v, r, rfl, hh⟩ := hq
  have hq := ev_if_some hh
  clear hh
  obtain ⟨t1, hh⟩ := hq
  have hq := ev_0_some hh
  clear hh
  obtain ⟨rfl, hh⟩ := hq
  cases hh
  refine ⟨Nat.le_refl _, Nat.le_refl _, fun ads ws H locs ls vs hp h0 h1 hwo hS hfr hst => ?_⟩
  have hq := hst.cons
  clear hst
  obtain ⟨w, vs, rfl, q2, hst⟩ := hq
  have hst := hst.nil
  subst hst
  refine hfin ads ws H locs ls w hp hwo hS ?_ q2 (ev_kind_ok t1 q2)
  intro z
  rcases q2 with ⟨h0, -⟩ | ⟨h0, -⟩ | ⟨h0, -⟩ | ⟨h0, -⟩ | ⟨h0, -⟩ <;> have z : v.1 = 9 := z <;> omega
theorem es_vret (hfin : ∀ (ads : List Nat) (ws : va_W) (H : Heap) (locs : List Loc) (ls : Array Slot), (∃ x, ads = ads0 ++ x) → ev_wo D cA A ads ws res.2.2.1 res.2.2.2 H → va_S A s.heap H locs → res.1.1 = 9 → W p l e R s m args below meth c H locs (res.2.2.1 - n0) (res.2.1 - s0) Q (F0 m pc ls [])) : ev_sd p l e R s m args below meth c Q nL D cA A ads0 n0 s0 res call eo_vret pc len := by
  intro Kn Kj al st ns nc h hh hn hj
  have hq := ev_0_some hh
  clear hh
  obtain ⟨rfl, hh⟩ := hq
  cases hh
  refine ⟨Nat.le_refl _, Nat.le_refl _, fun ads ws H locs ls vs hp h0 h1 hwo hS hfr hst => ?_⟩
  have hst := hst.nil
  subst hst
  exact hfin ads ws H locs ls hp hwo hS rfl
end EvCalls
end
section
/-! THE TABLES' WORDS: what an instruction's operation is, and what must be checked of it -/
abbrev ev_I : Type := Nat × Instr × Nat × (Nat × Nat × Nat × Nat) × List Nat
/-- the words by chapters: a place is 1000 times the chapter, and the place in it -/
def ev_tb (c : Nat) : List Cond := match c with
  | 0 => k2_sels lw_privs
  | 1 => tables_1_1
  | 2 => tables_1_2
  | 3 => tables_1_3
  | 4 => tables_1_4
  | 5 => tables_1_5
  | 6 => tables_1_6
  | 7 => tables_1_7
  | _ => tables_1_8
theorem ev_tb_in {c : Nat} {w : Cond} (h : w ∈ ev_tb c) : w ∈ lw_tbl := by
  have key : w ∈ k2_sels lw_privs ∨ w ∈ tables_1_1 ∨ w ∈ tables_1_2 ∨ w ∈ tables_1_3 ∨ w ∈ tables_1_4 ∨ w ∈ tables_1_5 ∨ w ∈ tables_1_6 ∨ w ∈ tables_1_7 ∨ w ∈ tables_1_8 := by
    match c, h with
    | 0, h => exact Or.inl h
    | 1, h => exact Or.inr (Or.inl h)
    | 2, h => exact Or.inr (Or.inr (Or.inl h))
    | 3, h => exact Or.inr (Or.inr (Or.inr (Or.inl h)))
    | 4, h => exact Or.inr (Or.inr (Or.inr (Or.inr (Or.inl h))))
    | 5, h => exact Or.inr (Or.inr (Or.inr (Or.inr (Or.inr (Or.inl h)))))
    | 6, h => exact Or.inr (Or.inr (Or.inr (Or.inr (Or.inr (Or.inr (Or.inl h))))))
    | 7, h => exact Or.inr (Or.inr (Or.inr (Or.inr (Or.inr (Or.inr (Or.inr (Or.inl h)))))))
    | c + 8, h => exact Or.inr (Or.inr (Or.inr (Or.inr (Or.inr (Or.inr (Or.inr (Or.inr h)))))))
  unfold lw_tbl tables_1
  simp only [List.mem_append]
  exact key
noncomputable def ev_at (w : Cond) (l : List Cond) : Nat → Bool :=
  List.rec (motive := fun _ => Nat → Bool) (fun _ => false) (fun x _ ih n => Nat.rec (motive := fun _ => Bool) (decide (x = w)) (fun m _ => ih m) n) l
theorem ev_at_in {w : Cond} {l : List Cond} : ∀ {n : Nat}, ev_at w l n = true → w ∈ l := by
  induction l with
  | nil => intro n h; exact absurd h (by simp [ev_at])
  | cons x xs ih =>
    intro n h
    cases n with
    | zero =>
      have h : decide (x = w) = true := h
      rw [of_decide_eq_true h]
      exact List.mem_cons_self
    | succ m => exact List.mem_cons_of_mem _ (ih (n := m) h)
noncomputable def ev_w (ws : List Nat) (n : Nat) (w : Cond) : Bool := ev_at w (ev_tb (Nat.div (ws.getD n 0) 1000)) (Nat.mod (ws.getD n 0) 1000) && goodWord w
theorem ev_w_in {ws : List Nat} {n : Nat} {w : Cond} (h : ev_w ws n w = true) : w ∈ en_WS := by
  simp only [ev_w, Bool.and_eq_true] at h
  exact List.mem_filter.mpr ⟨ev_tb_in (ev_at_in h.1), h.2⟩
noncomputable def ev_wn (ws : List Nat) (n : Nat) (w : Cond) : Bool := ev_at w (ev_tb (Nat.div (ws.getD n 0) 1000)) (Nat.mod (ws.getD n 0) 1000) && en_isN w
theorem ev_wn_in {ws : List Nat} {n : Nat} {w : Cond} (h : ev_wn ws n w = true) : w ∈ en_NW := by
  simp only [ev_wn, Bool.and_eq_true] at h
  exact List.mem_filter.mpr ⟨ev_tb_in (ev_at_in h.1), h.2⟩
def ev_tgt (pc : Nat) (off : Int) : Nat := ((pc : Int) + off).toNat
noncomputable def ev_sem (pc : Nat) (ins : Instr) (h1 h2 h3 h4 : Nat) : ev_Op := match ins with
  | .iconst i => eo_push (0, ev_u (Int32.ofInt i), 0)
  | .bipush i => eo_push (0, ev_u (Int8.ofInt i).toInt32, 0)
  | .sipush i => eo_push (0, ev_u (Int16.ofInt i).toInt32, 0)
  | .ldc _ => if h4 = 1 then eo_push (0, h1, 0) else eo_none
  | .ldc_w _ => if h4 = 1 then eo_push (0, h1, 0) else eo_none
  | .lconst n => eo_push (4, n.val, 0)
  | .iload i => eo_iload i
  | .iload_n i => eo_iload i.val
  | .aload i => eo_aload i
  | .aload_n i => eo_aload i.val
  | .istore i => eo_istore i
  | .istore_n i => eo_istore i.val
  | .astore i => eo_astore i
  | .astore_n i => eo_astore i.val
  | .iinc i n => eo_iinc i (ev_u (Int32.ofInt n))
  | .iadd => eo_bin eb_add
  | .isub => eo_bin eb_sub
  | .imul => eo_bin eb_mul
  | .iand => eo_bin eb_and
  | .ior => eo_bin eb_or
  | .ixor => eo_bin eb_xor
  | .ishl => eo_bin eb_shl
  | .ishr => eo_bin eb_shr
  | .iushr => eo_bin ev_ushr
  | .idiv => eo_div eb_div
  | .irem => eo_div eb_rem
  | .ineg => eo_un eb_neg
  | .i2b => eo_un eb_i2b
  | .dup => eo_dup
  | .dup2 => eo_dup2
  | .pop => eo_pop
  | .ifCond c _ => eo_ifc c h1
  | .if_icmp c _ => eo_icmp c h1
  | .goto _ => eo_goto h1
  | .tableswitch d lo _ offs => eo_tab (lo + 2147483648).toNat (offs.toList.map (ev_tgt pc)) (ev_tgt pc d)
  | .lookupswitch d ps => if h4 = 1 then eo_tab h1 (ps.toList.map (fun q => ev_tgt pc q.2)) (ev_tgt pc d) else eo_none
  | .getfield _ => if h4 = 9 then eo_none else eo_getf h1 h2
  | .putfield _ => if h4 = 9 then eo_none else eo_putf h1 h2 h4
  | .iaload => eo_ald 50 50
  | .baload => eo_ald 51 52
  | .iastore => eo_iast
  | .bastore => eo_bast
  | .arraylength => eo_alen
  | .newarray t => match t with
    | .int => eo_newa 50 (0, 0, 0)
    | .byte => eo_newa 51 (0, 0, 0)
    | .boolean => eo_newa 52 (0, 0, 0)
    | .long => eo_newa 53 (4, 0, 0)
    | _ => eo_none
  | .new _ => if h4 = 9 then eo_none else eo_new h1 (ev_blank.getD h1 []) h2
  | .invokespecial _ => if h3 = 9 then eo_none else if h3 = 2 then eo_obj else eo_spec h1 h2
  | .invokevirtual _ => if h3 = 9 then eo_none else eo_virt h1 h2 h4
  | .invokestatic _ => if h3 = 9 then eo_none else if h3 = 6 then eo_min else if h3 = 5 then eo_copy else eo_stat h1 h2
  | .ireturn => eo_iret h1
  | .return_ => eo_vret
  | _ => eo_none
/-- the kind of a field by its descriptor -/
def ev_kd (d : String) : Nat := match parseFieldDescriptor d with
  | some .int => 0
  | some .boolean => 1
  | some (.object _) => 2
  | some (.array _) => 2
  | some .long => 3
  | _ => 8
noncomputable def ev_nop (ws : List Nat) (own : String) (idx : Nat) (MT : List ev_M) (h1 h2 h3 : Nat) (f : ev_M → Bool) : Bool := match MT[h1]? with
  | none => false
  | some M => f M && ((if h3 = 1 then ev_wn ws 0 (.methodLinkNest own idx M.1 "MeadowSigns") else ev_w ws 0 (.methodLink own idx M.1)) && (ev_w ws 1 (.code M.1 M.2.1 M.2.2.1 M.2.2.2) && (ev_w ws 2 (.initialized M.1.cls) && (decide (M.1.cls ≠ "java/lang/invoke/MethodHandle" ∧ M.1.cls ≠ "java/lang/invoke/VarHandle" ∧ (parseMethodDescriptor M.1.desc).map (fun d => d.parameters.length) = some h2) && decide (M.2.2.1 ≤ 41)))))
noncomputable def ev_ok1 (MT : List ev_M) (own : String) (ini : Bool) (ret : Option FieldType) (pc : Nat) (ins : Instr) (len h1 h2 h3 h4 : Nat) (ws : List Nat) : Bool := match ins with
  | .iconst _ | .lconst _ | .iload_n _ | .aload_n _ | .istore_n _ | .astore_n _ | .iadd | .isub | .imul | .iand | .ior | .ixor | .ishl | .ishr | .iushr | .idiv | .irem | .ineg | .i2b | .dup | .dup2 | .pop | .iaload | .baload | .iastore | .bastore | .arraylength => decide (len = 1)
  | .bipush _ | .iload _ | .aload _ | .istore _ | .astore _ => decide (len = 2)
  | .sipush _ | .iinc _ _ => decide (len = 3)
  | .ldc idx => decide (len = 2) && (decide (h4 ≠ 1) || ev_w ws 0 (.constant own idx (ev_i h1)))
  | .ldc_w idx => decide (len = 3) && (decide (h4 ≠ 1) || ev_w ws 0 (.constant own idx (ev_i h1)))
  | .ifCond _ off | .if_icmp _ off | .goto off => decide (len = 3) && decide ((pc : Int) + off = (h1 : Int))
  | .tableswitch d lo hi offs => decide (-2147483648 ≤ lo ∧ hi = lo + offs.size - 1 ∧ 0 ≤ (pc : Int) + d) && offs.toList.all (fun o => decide (0 ≤ (pc : Int) + o))
  | .lookupswitch d ps => decide (¬ h4 = 1) || (decide (0 ≤ (pc : Int) + d ∧ (ps.toList.map (fun q => q.1)) = (List.range ps.toList.length).map (fun (j : Nat) => (h1 : Int) - 2147483648 + (j : Int))) && ((ps.toList.zip (ps.toList.drop 1)).all (fun (a, next) => a.1 < next.1) && ps.toList.all (fun q => decide (0 ≤ (pc : Int) + q.2))))
  | .getfield idx => decide (len = 3) && (decide (h4 = 9) || (match en_classes[h1]? with
    | none => false
    | some q => decide (h1 < 50 ∧ h2 < q.2.2) && (if h3 = 1 then ev_wn ws 0 (.fieldLinkNest own idx (q.2.1 h2).1 (q.2.1 h2).2.1 (q.2.1 h2).2.2.1 "MeadowSigns") else ev_w ws 0 (.fieldLink own idx (q.2.1 h2).1 (q.2.1 h2).2.1 (q.2.1 h2).2.2.1))))
  | .putfield idx => decide (len = 3) && (decide (h4 = 9) || (match en_classes[h1]? with
    | none => false
    | some q => decide (h1 < 50 ∧ h2 < q.2.2 ∧ ev_kd (q.2.1 h2).2.2.1 = h4 ∧ h4 ≤ 3) && (if h3 = 1 then ev_wn ws 0 (.fieldLinkNest own idx (q.2.1 h2).1 (q.2.1 h2).2.1 (q.2.1 h2).2.2.1 "MeadowSigns") else ev_w ws 0 (.fieldLink own idx (q.2.1 h2).1 (q.2.1 h2).2.1 (q.2.1 h2).2.2.1)) && (if h3 = 2 then decide ((q.2.1 h2).2.2.2 = true ∧ ini = true ∧ (q.2.1 h2).1 = own) else decide ((q.2.1 h2).2.2.2 = false))))
  | .newarray t => decide (len = 2) && ev_w ws 0 (.arrayClass (newarray.typeOf t))
  | .new idx => decide (len = 3) && (decide (h4 = 9) || (match en_classes[h1]? with
    | none => false
    | some q => decide (h1 < 50 ∧ h2 = q.2.2 ∧ (ev_blank.getD h1 []).length = h2) && (ev_w ws 0 (.classLink own idx q.1) && (ev_w ws 1 (.instantiable q.1 q.2.2) && (ev_w ws 2 (.initialized q.1) && (List.range h2).all (fun j => decide ((ev_blank.getD h1 [])[j]? = some (match ev_kd (q.2.1 j).2.2.1 with | 0 => (0, 0, 0) | 1 => (0, 0, 0) | 2 => (3, 0, 0) | _ => (4, 0, 0))) && decide (ev_kd (q.2.1 j).2.2.1 ≤ 3)))))))
  | .invokespecial idx => decide (len = 3) && (decide (h3 = 9) || (if h3 = 2 then ev_w ws 0 (.methodLink own idx objectInit) && (ev_w ws 1 (.instanceMethod objectInit) && ev_w ws 2 (.code objectInit ⟨#[0xb1]⟩ 1 none)) else ev_nop ws own idx MT h1 h2 h3 (fun M => ev_w ws 3 (.instanceMethod M.1) && decide (M.1.name = "<init>" ∧ M.2.2.2 = none))))
  | .invokevirtual idx => decide (len = 3) && (decide (h3 = 9) || ev_nop ws own idx MT h1 h2 h3 (fun M => ev_w ws 3 (.instanceMethod M.1) && (ev_w ws 4 (.selects M.1.cls M.1 M.1) && decide (h4 < 50 ∧ (en_classes[h4]?).map (fun q => q.1) = some M.1.cls))))
  | .invokestatic idx => decide (len = 3) && (decide (h3 = 9) || (if h3 = 6 then ev_w ws 0 (.methodLink own idx Lib.Math.min.name) && (ev_w ws 1 (.code Lib.Math.min.name Lib.Math.min.code 2 (some .int)) && (ev_w ws 2 (.initialized "java/lang/Math") && ev_w ws 3 (.static Lib.Math.min.name))) else if h3 = 5 then ev_w ws 0 (.methodLink own idx arraycopyName) && (ev_w ws 1 (.native arraycopyName) && (ev_w ws 2 (.static arraycopyName) && ev_w ws 3 (.initialized "java/lang/System"))) else ev_nop ws own idx MT h1 h2 h3 (fun M => ev_w ws 3 (.static M.1))))
  | .ireturn => decide (len = 1) && decide (h1 = 0 ∧ ret = some .int ∨ h1 = 1 ∧ ret = some .boolean)
  | .return_ => decide (len = 1) && decide (ret = none)
  | _ => true
end
section
def en_ty (q : vw_C) (k : Nat) : FieldType := (parseFieldDescriptor (q.2.1 k).2.2.1).getD .int
def en_ok : Prop := ∀ q ∈ en_classes, (∀ w ∈ u_ws q.1 q.2.1 q.2.2, w ∈ en_WS) ∧ (∀ k, k < q.2.2 → parseFieldDescriptor (q.2.1 k).2.2.1 = some (en_ty q k)) ∧ ∀ a, a < q.2.2 → ∀ b, b < q.2.2 → a ≠ b → (q.2.1 a).2.1 ≠ (q.2.1 b).2.1
theorem ev_fits_ty {d : String} {ty : FieldType} {kd : Nat} {w : Value} (hd : parseFieldDescriptor d = some ty) (hk : ev_kd d = kd) (hk3 : kd ≤ 3) (hw : ev_fits kd w) : narrow ty w = w ∧ fits ty w = true := by
  unfold ev_kd at hk
  rw [hd] at hk
  cases ty <;> simp only [] at hk <;> subst hk
  case int => obtain ⟨x, rfl⟩ := hw; exact ⟨rfl, rfl⟩
  case boolean =>
    obtain ⟨x, rfl, hx⟩ := hw
    rcases hx with rfl | rfl
    · exact ⟨by decide, by decide⟩
    · exact ⟨by decide, by decide⟩
  case object => rcases hw with rfl | ⟨a, rfl⟩ <;> exact ⟨rfl, rfl⟩
  case array => rcases hw with rfl | ⟨a, rfl⟩ <;> exact ⟨rfl, rfl⟩
  case long => obtain ⟨x, rfl⟩ := hw; exact ⟨rfl, rfl⟩
  all_goals omega
theorem ev_sameA {D : va_G} {cl : List vw_C} {tys : List (ClassId × FieldType)} {s : State} {t : Nat} {c0 c1 : ClassId} {ty : FieldType} (hK : va_K D cl tys s) (hK' : va_K D cl (tys ++ [(c1, ty)]) s) (ht : tys[t]? = some (c0, ty)) (hp : ∀ C, ty ≠ .object C) (hl : tys.length = 4) : c1 = c0 := by
  have h1 := (hK.2 t _ ht).2
  have h2 := (hK'.2 4 (c1, ty) (by rw [List.getElem?_append_right (by omega), hl]; rfl)).2
  cases ty
  case object C => exact absurd rfl (hp C)
  all_goals exact Option.some.inj (h2.symm.trans h1)
theorem ev_newC {cA : Nat → ClassId} {t : Nat} (ht : t ≤ 2) (N : Nat) (ads : List Nat) : ev_relC cA ads (50 + t) (List.replicate N (0, 0, 0)) (.inl (cA t, N, .inl (fun _ => 0))) := by
  refine Or.inr (Or.inl ⟨by omega, by omega, fun _ => 0, by rw [List.length_replicate, Nat.add_sub_cancel_left], fun j v hj => ?_⟩)
  have hv : v = (0, 0, 0) := List.eq_of_mem_replicate (List.mem_of_getElem? hj)
  subst hv
  exact Or.inl ⟨rfl, rfl⟩
theorem ev_dflt {d : String} {ty : FieldType} (hd : parseFieldDescriptor d = some ty) (hk : ev_kd d ≤ 3) (ads : List Nat) : ev_rel ads (match ev_kd d with | 0 => (0, 0, 0) | 1 => (0, 0, 0) | 2 => (3, 0, 0) | _ => (4, 0, 0)) (defaultValue ty) := by
  unfold ev_kd at hk ⊢
  rw [hd] at hk ⊢
  cases ty
  case int => exact Or.inl ⟨rfl, rfl⟩
  case boolean => exact Or.inl ⟨rfl, rfl⟩
  case object => exact Or.inr (Or.inr (Or.inr (Or.inl ⟨rfl, rfl⟩)))
  case array => exact Or.inr (Or.inr (Or.inr (Or.inl ⟨rfl, rfl⟩)))
  case long => exact Or.inr (Or.inr (Or.inr (Or.inr ⟨rfl, rfl⟩)))
  all_goals exact absurd hk (by simp)
theorem ev_lkp : ∀ (L : List (Int × Int)) (a dd k : Int), L.map (fun q => q.1) = (List.range L.length).map (fun (j : Nat) => a + (j : Int)) → ((k < a ∨ a + L.length ≤ k) → Op.lookupswitch.offset L dd k = dd) ∧ ∀ (j : Nat) (q : Int × Int), L[j]? = some q → k = a + j → Op.lookupswitch.offset L dd k = q.2 := by
  intro L
  induction L with
  | nil => intro a dd k _; exact ⟨fun _ => rfl, fun j q hj => by simp at hj⟩
  | cons x xs ih =>
    intro a dd k h
    obtain ⟨x1, x2⟩ := x
    rw [List.length_cons, List.range_succ_eq_map, List.map_cons, List.map_cons, List.map_map] at h
    have e1 : x1 = a + ((0 : Nat) : Int) := (List.cons.inj h).1
    have e2 := (List.cons.inj h).2
    obtain ⟨g1, g2⟩ := ih (a + 1) dd k (by
      rw [e2]
      apply List.map_congr_left
      intro j _
      show a + ((j + 1 : Nat) : Int) = a + 1 + (j : Int)
      omega)
    rw [Op.lookupswitch.offset_cons]
    refine ⟨fun hk => ?_, fun j q hj hk => ?_⟩
    · rw [List.length_cons] at hk
      rw [if_neg (by omega)]
      exact g1 (by omega)
    · cases j with
      | zero =>
        cases hj
        rw [if_pos (by omega)]
      | succ j =>
        rw [List.getElem?_cons_succ] at hj
        rw [if_neg (by omega)]
        exact g2 j q hj (by omega)
section EvSem
variable {p : Program} {l : Launch} {e : Env} {R : Room} {s : State} {m : MethodId} {args : Array Value} {below : List Frame} {meth : Method} {c : Code} {Q : State → Prop}
variable {cc : ByteArray} {own : String} {nL : Nat} {D : va_G} {cA : Nat → ClassId} {A : Nat → Prop} {ads0 : List Nat} {n0 s0 d : Nat} {res : ev_V × Nat × Nat × ev_H} {call : ev_Call} {pc len : Nat}
theorem es_none : ev_sd p l e R s m args below meth c Q nL D cA A ads0 n0 s0 res call eo_none pc len := by
  intro Kn Kj al st ns nc h hh
  exact absurd hh (by simp [eo_none])
theorem ev_goodIn {M : ev_M} (h : Cond.code M.1 M.2.1 M.2.2.1 M.2.2.2 ∈ en_WS) : GoodIn en_WS (ev_ws M) := by
  intro w hw
  rcases List.mem_cons.mp hw with rfl | hw
  · exact ⟨h, good_of_word (List.mem_filter.mp h).2⟩
  · exact ⟨hw, good_of_word (List.mem_filter.mp hw).2⟩
theorem ev_nop_ok {ws : List Nat} {idx : Nat} {MT : List ev_M} {h1 h2 h3 : Nat} {f : ev_M → Bool} (h : ev_nop ws own idx MT h1 h2 h3 f = true) : ∃ M, MT[h1]? = some M ∧ f M = true ∧ (h3 = 1 → Cond.methodLinkNest own idx M.1 "MeadowSigns" ∈ en_NW) ∧ (¬ h3 = 1 → Cond.methodLink own idx M.1 ∈ en_WS) ∧ Cond.code M.1 M.2.1 M.2.2.1 M.2.2.2 ∈ en_WS ∧ Cond.initialized M.1.cls ∈ en_WS ∧ (M.1.cls ≠ "java/lang/invoke/MethodHandle" ∧ M.1.cls ≠ "java/lang/invoke/VarHandle" ∧ (parseMethodDescriptor M.1.desc).map (fun d => d.parameters.length) = some h2) ∧ M.2.2.1 ≤ 41 := by
  unfold ev_nop at h
  cases hM : MT[h1]? with
  | none => rw [hM] at h; exact absurd h (by simp)
  | some M =>
    rw [hM] at h
    simp only [Bool.and_eq_true, decide_eq_true_eq] at h
    obtain ⟨a1, a2, a3, a4, a5, a6⟩ := h
    refine ⟨M, rfl, a1, fun z => ?_, fun z => ?_, ev_w_in a3, ev_w_in a4, a5, a6⟩
    · rw [if_pos z] at a2; exact ev_wn_in a2
    · rw [if_neg z] at a2; exact ev_w_in a2
theorem ev_callB {M : ev_M} {idx n mc ms : Nat} (hcx : ev_cx p R s m args c cc own nL D cA A d n0 s0 res) (h1 : Cond.methodLink own idx M.1 ∈ en_WS) (h2 : Cond.code M.1 M.2.1 M.2.2.1 M.2.2.2 ∈ en_WS) (h3 : Cond.initialized M.1.cls ∈ en_WS) (h4 : M.1.cls ≠ "java/lang/invoke/MethodHandle" ∧ M.1.cls ≠ "java/lang/invoke/VarHandle" ∧ (parseMethodDescriptor M.1.desc).map (fun d => d.parameters.length) = some n) (h5 : M.2.2.1 ≤ 41) : CallB R s args own idx M.1 M.2.1 M.2.2.1 M.2.2.2 (ev_ws M) (ev_rm d mc ms) mc ms n := by
  obtain ⟨-, -, hts, -, -, -, -, r1, r2, -, -, -⟩ := hcx
  exact callB_of n hts (ev_goodIn h2) rfl rfl rfl (hts _ h3) (hts _ h1) h4 ⟨by rw [r1]; exact Nat.le_refl _, by rw [r2]; show 8 + (M.2.2.1 + 11) + 60 * d ≤ _; omega⟩
theorem ev_callN {M : ev_M} {idx n mc ms : Nat} (hcx : ev_cx p R s m args c cc own nL D cA A d n0 s0 res) (h1 : Cond.methodLinkNest own idx M.1 "MeadowSigns" ∈ en_NW) (h2 : Cond.code M.1 M.2.1 M.2.2.1 M.2.2.2 ∈ en_WS) (h3 : Cond.initialized M.1.cls ∈ en_WS) (h4 : M.1.cls ≠ "java/lang/invoke/MethodHandle" ∧ M.1.cls ≠ "java/lang/invoke/VarHandle" ∧ (parseMethodDescriptor M.1.desc).map (fun d => d.parameters.length) = some n) (h5 : M.2.2.1 ≤ 41) : va_CN R s args own idx M.1 "MeadowSigns" M.2.1 M.2.2.1 M.2.2.2 (ev_ws M) (ev_rm d mc ms) mc ms n := by
  obtain ⟨-, -, hts, -, -, -, -, r1, r2, -, -, hNw⟩ := hcx
  exact va_cnB n hts (ev_goodIn h2) rfl rfl rfl (hNw _ h1) (hts _ h3) h4 ⟨by rw [r1]; exact Nat.le_refl _, by rw [r2]; show 8 + (M.2.2.1 + 11) + 60 * d ≤ _; omega⟩
set_option maxHeartbeats 4000000 in
theorem ev_sem_ok {MT : List ev_M} {ini : Bool} {ret : Option FieldType} {ins : Instr} {h1 h2 h3 h4 : Nat} {ws : List Nat} (hen : en_ok) (hcx : ev_cx p R s m args c cc own nL D cA A d n0 s0 res) (hname : ini = true → meth.name = "<init>")
    (hcall : ∀ k M, MT[k]? = some M → ∀ as ns nc h r, call k as ns nc h = some r → ev_Met l M d as ns nc h r)
    (hri : ret = some .int → ∀ (ads : List Nat) (ws : va_W) (H : Heap) (locs : List Loc) (ls : Array Slot) (x : Int32), (∃ x, ads = ads0 ++ x) → ev_wo D cA A ads ws res.2.2.1 res.2.2.2 H → va_S A s.heap H locs → ¬ res.1.1 = 9 → ev_rel ads res.1 (.int x) → decode cc pc = .ok (.ireturn, 1) → W p l e R s m args below meth c H locs (res.2.2.1 - n0) (res.2.1 - s0) Q (F0 m pc ls [.int x]))
    (hrz : ret = some .boolean → ∀ (ads : List Nat) (ws : va_W) (H : Heap) (locs : List Loc) (ls : Array Slot) (x : Int32), (∃ x, ads = ads0 ++ x) → ev_wo D cA A ads ws res.2.2.1 res.2.2.2 H → va_S A s.heap H locs → ¬ res.1.1 = 9 → ev_rel ads res.1 (.int x) → (x = 0 ∨ x = 1) → decode cc pc = .ok (.ireturn, 1) → W p l e R s m args below meth c H locs (res.2.2.1 - n0) (res.2.1 - s0) Q (F0 m pc ls [.int x]))
    (hrv : ret = none → ∀ (ads : List Nat) (ws : va_W) (H : Heap) (locs : List Loc) (ls : Array Slot), (∃ x, ads = ads0 ++ x) → ev_wo D cA A ads ws res.2.2.1 res.2.2.2 H → va_S A s.heap H locs → res.1.1 = 9 → decode cc pc = .ok (.return_, 1) → W p l e R s m args below meth c H locs (res.2.2.1 - n0) (res.2.1 - s0) Q (F0 m pc ls []))
    (hok : ev_ok1 MT own ini ret pc ins len h1 h2 h3 h4 ws = true) (hdg : decode cc pc = .ok (ins, len)) : ev_sd p l e R s m args below meth c Q nL D cA A ads0 n0 s0 res call (ev_sem pc ins h1 h2 h3 h4) pc len := by
  have hcx' := hcx
  obtain ⟨hx, hb, hts, hown, hK, hA, hml, r1, r2, r3, r4, hNw⟩ := hcx'
  cases ins
  case iconst i =>
    have hl : len = 1 := of_decide_eq_true hok
    subst hl
    exact es_push (fun ads => ev_rel.ex ads _ 0) fun H locs k n ls rest hk => lv_iconst hx hb hdg rfl hk
  case bipush i =>
    have hl : len = 2 := of_decide_eq_true hok
    subst hl
    exact es_push (fun ads => ev_rel.ex ads _ 0) fun H locs k n ls rest hk => lv_bipush hx hb hdg rfl hk
  case sipush i =>
    have hl : len = 3 := of_decide_eq_true hok
    subst hl
    exact es_push (fun ads => ev_rel.ex ads _ 0) fun H locs k n ls rest hk => lv_sipush hx hb hdg rfl hk
  case ldc idx =>
    simp only [ev_ok1, Bool.and_eq_true, Bool.or_eq_true, decide_eq_true_eq] at hok
    obtain ⟨hl, hok⟩ := hok
    subst hl
    show ev_sd p l e R s m args below meth c Q nL D cA A ads0 n0 s0 res call (if h4 = 1 then eo_push (0, h1, 0) else eo_none) pc 2
    by_cases h : h4 = 1
    · rw [if_pos h]
      have hw := hts _ (ev_w_in (hok.resolve_left (fun z => z h)))
      exact es_push (fun ads => ev_rel.of ads _ 0) fun H locs k n ls rest hk => lv_ldc hx hb hown hw hdg hk
    · rw [if_neg h]
      exact es_none
  case ldc_w idx =>
    simp only [ev_ok1, Bool.and_eq_true, Bool.or_eq_true, decide_eq_true_eq] at hok
    obtain ⟨hl, hok⟩ := hok
    subst hl
    show ev_sd p l e R s m args below meth c Q nL D cA A ads0 n0 s0 res call (if h4 = 1 then eo_push (0, h1, 0) else eo_none) pc 3
    by_cases h : h4 = 1
    · rw [if_pos h]
      have hw := hts _ (ev_w_in (hok.resolve_left (fun z => z h)))
      exact es_push (fun ads => ev_rel.of ads _ 0) fun H locs k n ls rest hk => lv_ldcw hx hb hown hw hdg hk
    · rw [if_neg h]
      exact es_none
  case lconst n =>
    have hl : len = 1 := of_decide_eq_true hok
    subst hl
    exact es_push (v := (4, n.val, 0)) (w := .long (Int64.ofNat n.val)) (fun ads => Or.inr (Or.inr (Or.inr (Or.inr ⟨rfl, rfl⟩)))) fun H locs k n' ls rest hk => lv_lconst hx hb hdg rfl hk
  case iload i =>
    have hl : len = 2 := of_decide_eq_true hok
    subst hl
    exact es_iload fun H locs k n ls rest x hx' hk => lv_iload hx hb hdg hx' hk
  case iload_n i =>
    have hl : len = 1 := of_decide_eq_true hok
    subst hl
    exact es_iload fun H locs k n ls rest x hx' hk => lv_iload_n hx hb hdg rfl hx' hk
  case aload i =>
    have hl : len = 2 := of_decide_eq_true hok
    subst hl
    exact es_aload fun H locs k n ls rest x hx' hk => lv_aload hx hb hdg hx' hk
  case aload_n i =>
    have hl : len = 1 := of_decide_eq_true hok
    subst hl
    exact es_aload fun H locs k n ls rest x hx' hk => lv_aload_n hx hb hdg rfl hx' hk
  case istore i =>
    have hl : len = 2 := of_decide_eq_true hok
    subst hl
    exact es_istore fun H locs k n ls lv rest x hlv hi hk => lv_istore hx hb hdg hlv hi rfl hk
  case istore_n i =>
    have hl : len = 1 := of_decide_eq_true hok
    subst hl
    exact es_istore fun H locs k n ls lv rest x hlv hi hk => lv_istore_n hx hb hdg rfl hlv hi rfl hk
  case astore i =>
    have hl : len = 2 := of_decide_eq_true hok
    subst hl
    exact es_astore fun H locs k n ls lv rest x hlv hi hk => lv_astore hx hb hdg hlv hi rfl hk
  case astore_n i =>
    have hl : len = 1 := of_decide_eq_true hok
    subst hl
    exact es_astore fun H locs k n ls lv rest x hlv hi hk => lv_astore_n hx hb hdg rfl hlv hi rfl hk
  case iinc i n =>
    have hl : len = 3 := of_decide_eq_true hok
    subst hl
    refine es_iinc fun H locs k n' ls lv rest x hlv hm hi hk => ?_
    obtain ⟨k0, hk0⟩ := List.getElem?_of_mem hm
    exact lv_iinc hx hb hdg hlv hk0 (by rw [ev_iu]) hi rfl hk
  case iadd =>
    have hl : len = 1 := of_decide_eq_true hok
    subst hl
    exact es_bin fun H locs k n ls rest x y hk => lv_iadd hx hb hdg hk
  case isub =>
    have hl : len = 1 := of_decide_eq_true hok
    subst hl
    exact es_bin fun H locs k n ls rest x y hk => lv_isub hx hb hdg hk
  case imul =>
    have hl : len = 1 := of_decide_eq_true hok
    subst hl
    exact es_bin fun H locs k n ls rest x y hk => lv_imul hx hb hdg hk
  case iand =>
    have hl : len = 1 := of_decide_eq_true hok
    subst hl
    exact es_bin fun H locs k n ls rest x y hk => lv_iand hx hb hdg hk
  case ior =>
    have hl : len = 1 := of_decide_eq_true hok
    subst hl
    exact es_bin fun H locs k n ls rest x y hk => lv_ior hx hb hdg hk
  case ixor =>
    have hl : len = 1 := of_decide_eq_true hok
    subst hl
    exact es_bin fun H locs k n ls rest x y hk => lv_ixor hx hb hdg hk
  case ishl =>
    have hl : len = 1 := of_decide_eq_true hok
    subst hl
    exact es_bin fun H locs k n ls rest x y hk => lv_ishl hx hb hdg hk
  case ishr =>
    have hl : len = 1 := of_decide_eq_true hok
    subst hl
    exact es_bin fun H locs k n ls rest x y hk => lv_ishr hx hb hdg hk
  case iushr =>
    have hl : len = 1 := of_decide_eq_true hok
    subst hl
    exact es_bin fun H locs k n ls rest x y hk => lv_iushr hx hb hdg rfl hk
  case idiv =>
    have hl : len = 1 := of_decide_eq_true hok
    subst hl
    exact es_div fun H locs k n ls rest x y hy hk => lv_idiv hx hb hdg hy hk
  case irem =>
    have hl : len = 1 := of_decide_eq_true hok
    subst hl
    exact es_div fun H locs k n ls rest x y hy hk => lv_irem hx hb hdg hy hk
  case ineg =>
    have hl : len = 1 := of_decide_eq_true hok
    subst hl
    exact es_un fun H locs k n ls rest x hk => lv_ineg hx hb hdg hk
  case i2b =>
    have hl : len = 1 := of_decide_eq_true hok
    subst hl
    exact es_un fun H locs k n ls rest x hk => lv_i2b hx hb hdg rfl hk
  case dup =>
    have hl : len = 1 := of_decide_eq_true hok
    subst hl
    exact es_dup fun H locs k n ls rest w hw hk => lv_dup hx hb hdg hw hk
  case dup2 =>
    have hl : len = 1 := of_decide_eq_true hok
    subst hl
    exact es_dup2 fun H locs k n ls rest w w' hw hw' hk => lv_dup2_11 hx hb hdg hw hw' hk
  case pop =>
    have hl : len = 1 := of_decide_eq_true hok
    subst hl
    exact es_pop fun H locs k n ls rest w hw hk => lv_pop hx hb hdg hw hk
  case ifCond cd off =>
    simp only [ev_ok1, Bool.and_eq_true, decide_eq_true_eq] at hok
    obtain ⟨hl, ht⟩ := hok
    subst hl
    refine es_ifc fun H locs k n ls rest x kt kf => ?_
    cases cd
    · exact lv_if_eq hx hb hdg ht kt kf
    · exact lv_if_ne hx hb hdg ht kt (fun z => kf (fun w => w z))
    · exact lv_if_lt hx hb hdg ht kt kf
    · exact lv_if_ge hx hb hdg ht kt kf
    · exact lv_if_gt hx hb hdg ht kt kf
    · exact lv_if_le hx hb hdg ht kt kf
  case if_icmp cd off =>
    simp only [ev_ok1, Bool.and_eq_true, decide_eq_true_eq] at hok
    obtain ⟨hl, ht⟩ := hok
    subst hl
    refine es_icmp fun H locs k n ls rest x y kt kf => ?_
    cases cd
    · exact lv_icmp_eq hx hb hdg ht kt kf
    · exact lv_icmp_ne hx hb hdg ht kt (fun z => kf (fun w => w z))
    · exact lv_icmp_lt hx hb hdg ht kt kf
    · exact lv_icmp_ge hx hb hdg ht kt kf
    · exact lv_icmp_gt hx hb hdg ht kt kf
    · exact lv_icmp_le hx hb hdg ht kt kf
  case goto off =>
    simp only [ev_ok1, Bool.and_eq_true, decide_eq_true_eq] at hok
    obtain ⟨hl, ht⟩ := hok
    subst hl
    exact es_goto fun H locs k n ls rest hk => lv_goto hx hb hdg ht hk
  case tableswitch dd lo hi offs =>
    simp only [ev_ok1, Bool.and_eq_true, decide_eq_true_eq, List.all_eq_true] at hok
    obtain ⟨⟨o1, o2, o3⟩, o4⟩ := hok
    refine es_tab fun H locs k n ls rest x t ht hk => ?_
    have hkx := ev_key_int x
    rw [List.length_map] at ht
    have hsz : offs.toList.length = offs.size := by simp
    rcases ht with ⟨ht, rfl⟩ | ⟨ht, ht2⟩
    · exact lv_tableOut hx hb hdg (by omega) (by unfold ev_tgt; omega) hk
    · rw [List.getElem?_map] at ht2
      cases ho : offs.toList[ev_key x - (lo + 2147483648).toNat]? with
      | none => rw [ho] at ht2; cases ht2
      | some off =>
        rw [ho] at ht2
        have ht2 : ev_tgt pc off = t := Option.some.inj ht2
        have hlt := (List.getElem?_eq_some_iff.mp ho).1
        have h0 := o4 off (List.mem_of_getElem? ho)
        refine lv_tableIn (off := off) hx hb hdg (by omega) (by omega) ?_ (by rw [← ht2]; unfold ev_tgt; omega) hk
        rw [← ho, show (x.toInt - lo).toNat = ev_key x - (lo + 2147483648).toNat by omega]
        simp
  case lookupswitch dd ps =>
    show ev_sd p l e R s m args below meth c Q nL D cA A ads0 n0 s0 res call (if h4 = 1 then eo_tab h1 (ps.toList.map (fun q => ev_tgt pc q.2)) (ev_tgt pc dd) else eo_none) pc len
    by_cases h : h4 = 1
    · rw [if_pos h]
      have hok : (0 ≤ (pc : Int) + dd ∧ (ps.toList.map (fun q => q.1)) = (List.range ps.toList.length).map (fun (j : Nat) => (h1 : Int) - 2147483648 + (j : Int))) ∧ (ps.toList.zip (ps.toList.drop 1)).all (fun (a, next) => a.1 < next.1) = true ∧ ∀ q ∈ ps.toList, 0 ≤ (pc : Int) + q.2 := by
        simp only [ev_ok1, Bool.and_eq_true, Bool.or_eq_true, decide_eq_true_eq, List.all_eq_true] at hok
        have hz := hok.resolve_left (fun z => z h)
        exact ⟨hz.1, by simpa [List.all_eq_true] using hz.2.1, hz.2.2⟩
      obtain ⟨⟨o1, o2⟩, o3, o4⟩ := hok
      refine es_tab fun H locs k n ls rest x t ht hk => ?_
      have hkx := ev_key_int x
      rw [List.length_map] at ht
      have hof := ev_lkp ps.toList ((h1 : Int) - 2147483648) dd x.toInt o2
      rcases ht with ⟨ht, rfl⟩ | ⟨ht, ht2⟩
      · exact lv_lookup hx hb hdg o3 (hof.1 (by omega)) (by unfold ev_tgt; omega) hk
      · rw [List.getElem?_map] at ht2
        cases ho : ps.toList[ev_key x - h1]? with
        | none => rw [ho] at ht2; cases ht2
        | some q =>
          rw [ho] at ht2
          have ht2 : ev_tgt pc q.2 = t := Option.some.inj ht2
          have h0 := o4 q (List.mem_of_getElem? ho)
          exact lv_lookup (off := q.2) hx hb hdg o3 (hof.2 (ev_key x - h1) q ho (by omega)) (by rw [← ht2]; unfold ev_tgt; omega) hk
    · rw [if_neg h]
      exact es_none
  case iaload =>
    have hl : len = 1 := of_decide_eq_true hok
    subst hl
    refine es_ald (by decide) (by decide) fun t t1 t2 H locs k' n ls rest ws a q0 N f i hP ha hin hk => ?_
    have ht : t = 0 := by omega
    subst ht
    exact va_iald hx hb hK hP q0 0 ha rfl hin hdg hk
  case baload =>
    have hl : len = 1 := of_decide_eq_true hok
    subst hl
    refine es_ald (by decide) (by decide) fun t t1 t2 H locs k' n ls rest ws a q0 N f i hP ha hin hk => ?_
    have ht : t = 1 ∨ t = 2 := by omega
    rcases ht with rfl | rfl
    · exact va_bald hx hb hK hP q0 1 ha rfl hin hdg hk
    · exact va_zald hx hb hK hP q0 2 ha rfl hin hdg hk
  case iastore =>
    have hl : len = 1 := of_decide_eq_true hok
    subst hl
    exact es_iast fun H locs k' n ls rest ws a q0 N f i x hP hD hS ha hin hk => va_iast hx hb hK hP hD hS q0 0 ha rfl hin hdg hk
  case bastore =>
    have hl : len = 1 := of_decide_eq_true hok
    subst hl
    refine es_bast fun t ty ht H locs k' n ls rest ws a q0 N f i x hP hD hS ha hin hk => ?_
    rcases ht with ⟨rfl, rfl⟩ | ⟨rfl, rfl⟩
    · exact va_bast hx hb hK hP hD hS q0 1 ha rfl hin hdg hk
    · exact va_zast hx hb hK hP hD hS q0 2 ha rfl hin hdg hk
  case arraylength =>
    have hl : len = 1 := of_decide_eq_true hok
    subst hl
    refine es_alen fun t ht H locs k' n ls rest ws a q0 x hP ha hk => ?_
    match t, ht with
    | 0, _ => exact va_alen hx hb hK hP q0 0 ha rfl rfl hdg hk
    | 1, _ => exact va_alen hx hb hK hP q0 1 ha rfl rfl hdg hk
    | 2, _ => exact va_alen hx hb hK hP q0 2 ha rfl rfl hdg hk
    | 3, _ => exact va_alen hx hb hK hP q0 3 ha rfl rfl hdg hk
    | t + 4, ht => omega
  case getfield idx =>
    simp only [ev_ok1, Bool.and_eq_true, Bool.or_eq_true, decide_eq_true_eq] at hok
    obtain ⟨hl, hok⟩ := hok
    subst hl
    show ev_sd p l e R s m args below meth c Q nL D cA A ads0 n0 s0 res call (if h4 = 9 then eo_none else eo_getf h1 h2) pc 3
    by_cases h : h4 = 9
    · rw [if_pos h]; exact es_none
    · rw [if_neg h]
      have hok := hok.resolve_left h
      cases hq : en_classes[h1]? with
      | none => rw [hq] at hok; exact absurd hok (by simp)
      | some q =>
        obtain ⟨C, T, N⟩ := q
        rw [hq] at hok
        simp only [Bool.and_eq_true, decide_eq_true_eq] at hok
        obtain ⟨⟨o1, o2⟩, o3⟩ := hok
        obtain ⟨e1, -, -⟩ := hen _ (List.mem_of_getElem? hq)
        refine es_getf o1 fun H locs k' n ls rest ws a q0 fs v hP ha hv hk => ?_
        by_cases h' : h3 = 1
        · rw [if_pos h'] at o3
          exact va_getN hx hb hts e1 hown hK hP q0 ha hq h2 o2 (va_Nw.use rfl (hNw _ (ev_wn_in o3))) (fun _ z => z) hv hdg hk
        · rw [if_neg h'] at o3
          exact va_get hx hb hts e1 hown hK hP q0 ha hq h2 o2 (hts _ (ev_w_in o3)) (fun _ z => z) hv hdg hk
  case putfield idx =>
    simp only [ev_ok1, Bool.and_eq_true, Bool.or_eq_true, decide_eq_true_eq] at hok
    obtain ⟨hl, hok⟩ := hok
    subst hl
    show ev_sd p l e R s m args below meth c Q nL D cA A ads0 n0 s0 res call (if h4 = 9 then eo_none else eo_putf h1 h2 h4) pc 3
    by_cases h : h4 = 9
    · rw [if_pos h]; exact es_none
    · rw [if_neg h]
      have hok := hok.resolve_left h
      cases hq : en_classes[h1]? with
      | none => rw [hq] at hok; exact absurd hok (by simp)
      | some q =>
        obtain ⟨C, T, N⟩ := q
        rw [hq] at hok
        simp only [Bool.and_eq_true, decide_eq_true_eq] at hok
        obtain ⟨⟨⟨o1, o2, o3, o4⟩, o5⟩, o6⟩ := hok
        obtain ⟨e1, e2, e3⟩ := hen _ (List.mem_of_getElem? hq)
        refine es_putf o1 fun H locs k' n ls rest ws a q0 fs v hP hD hS ha hlt hfit hk => ?_
        obtain ⟨f1, f2⟩ := ev_fits_ty (e2 h2 o2) o3 o4 hfit
        by_cases h' : h3 = 1
        · rw [if_pos h'] at o5
          rw [if_neg (by omega)] at o6
          exact va_putN hx hb hts e1 (en_ty (C, T, N)) e2 e3 hown hK hP hD hS q0 ha hq h2 o2 (va_Nw.use rfl (hNw _ (ev_wn_in o5))) (fun _ z => z) (of_decide_eq_true o6) (e2 h2 o2) f1 f2 hlt hdg hk
        · rw [if_neg h'] at o5
          by_cases h'' : h3 = 2
          · rw [if_pos h''] at o6
            obtain ⟨z1, z2, z3⟩ := of_decide_eq_true o6
            exact va_putF hx hb hts e1 (en_ty (C, T, N)) e2 e3 hown hK hP hD hS q0 ha hq h2 o2 (hts _ (ev_w_in o5)) (fun _ z => z) z1 (hname z2) z3 (e2 h2 o2) f1 f2 hlt hdg hk
          · rw [if_neg h''] at o6
            exact va_put hx hb hts e1 (en_ty (C, T, N)) e2 e3 hown hK hP hD hS q0 ha hq h2 o2 (hts _ (ev_w_in o5)) (fun _ z => z) (of_decide_eq_true o6) (e2 h2 o2) f1 f2 hlt hdg hk
  case ireturn =>
    simp only [ev_ok1, Bool.and_eq_true, decide_eq_true_eq] at hok
    obtain ⟨hl, hok⟩ := hok
    subst hl
    refine es_iret fun ads ws H locs ls w hp hwo hS hr hrel hf => ?_
    rcases hok with ⟨rfl, hr2⟩ | ⟨rfl, hr2⟩
    · obtain ⟨x, rfl⟩ := hf
      exact hri hr2 ads ws H locs ls x hp hwo hS hr hrel hdg
    · obtain ⟨x, rfl, hx⟩ := hf
      exact hrz hr2 ads ws H locs ls x hp hwo hS hr hrel hx hdg
  case return_ =>
    simp only [ev_ok1, Bool.and_eq_true, decide_eq_true_eq] at hok
    obtain ⟨hl, hok⟩ := hok
    subst hl
    exact es_vret fun ads ws H locs ls hp hwo hS hr => hrv hok ads ws H locs ls hp hwo hS hr hdg
  case newarray t =>
    simp only [ev_ok1, Bool.and_eq_true, decide_eq_true_eq] at hok
    obtain ⟨hl, hok⟩ := hok
    subst hl
    have hw := hts _ (ev_w_in hok)
    cases t
    case int =>
      exact es_newa 0 rfl (fun N => (N, .inl (fun _ => 0))) (fun N ads => ev_newC (t := 0) (by decide) N ads) hcx fun H locs k n ls rest ws N hN hP hD hS hc hs hk => va_newa hx hb hw rfl hK hP hD hS hA (fun _ => rfl) (nI_pos (show N < 2 ^ 31 by omega)) (ev_cl hN) (by show N * 4 ≤ _; omega) hc hs hdg fun q cA' H1 hK' hP1 hD1 hS1 => by
        have e := ev_sameA (t := 0) hK hK' rfl (fun C z => by cases z) rfl
        subst e
        exact hk q H1 hP1 hD1 hS1
    case byte =>
      exact es_newa 1 rfl (fun N => (N, .inl (fun _ => 0))) (fun N ads => ev_newC (t := 1) (by decide) N ads) hcx fun H locs k n ls rest ws N hN hP hD hS hc hs hk => va_newa hx hb hw rfl hK hP hD hS hA (fun _ => rfl) (nI_pos (show N < 2 ^ 31 by omega)) (ev_cl hN) (by show N * 1 ≤ _; omega) hc hs hdg fun q cA' H1 hK' hP1 hD1 hS1 => by
        have e := ev_sameA (t := 1) hK hK' rfl (fun C z => by cases z) rfl
        subst e
        exact hk q H1 hP1 hD1 hS1
    case boolean =>
      exact es_newa 2 rfl (fun N => (N, .inl (fun _ => 0))) (fun N ads => ev_newC (t := 2) (by decide) N ads) hcx fun H locs k n ls rest ws N hN hP hD hS hc hs hk => va_newa hx hb hw rfl hK hP hD hS hA (fun _ => rfl) (nI_pos (show N < 2 ^ 31 by omega)) (ev_cl hN) (by show N * 1 ≤ _; omega) hc hs hdg fun q cA' H1 hK' hP1 hD1 hS1 => by
        have e := ev_sameA (t := 2) hK hK' rfl (fun C z => by cases z) rfl
        subst e
        exact hk q H1 hP1 hD1 hS1
    case long =>
      exact es_newa 3 rfl (fun N => (N, .inr (.inl (fun _ => 0)))) (fun N ads => Or.inr (Or.inr (Or.inl ⟨rfl, fun _ => 0, by rw [List.length_replicate]⟩))) hcx fun H locs k n ls rest ws N hN hP hD hS hc hs hk => va_newa hx hb hw rfl hK hP hD hS hA (fun _ => rfl) (nI_pos (show N < 2 ^ 31 by omega)) (ev_cl hN) (by show N * 8 ≤ _; omega) hc hs hdg fun q cA' H1 hK' hP1 hD1 hS1 => by
        have e := ev_sameA (t := 3) hK hK' rfl (fun C z => by cases z) rfl
        subst e
        exact hk q H1 hP1 hD1 hS1
    all_goals exact es_none
  case new idx =>
    simp only [ev_ok1, Bool.and_eq_true, Bool.or_eq_true, decide_eq_true_eq] at hok
    obtain ⟨hl, hok⟩ := hok
    subst hl
    show ev_sd p l e R s m args below meth c Q nL D cA A ads0 n0 s0 res call (if h4 = 9 then eo_none else eo_new h1 (ev_blank.getD h1 []) h2) pc 3
    by_cases h : h4 = 9
    · rw [if_pos h]; exact es_none
    · rw [if_neg h]
      have hok := hok.resolve_left h
      cases hq : en_classes[h1]? with
      | none => rw [hq] at hok; exact absurd hok (by simp)
      | some q =>
        obtain ⟨C, T, N⟩ := q
        rw [hq] at hok
        simp only [Bool.and_eq_true, decide_eq_true_eq, List.all_eq_true, List.mem_range] at hok
        obtain ⟨⟨o1, o2, o3⟩, o4, o5, o6, o7⟩ := hok
        obtain ⟨e1, e2, e3⟩ := hen _ (List.mem_of_getElem? hq)
        subst o2
        have hv : ∀ j, j < h2 → ((List.range h2).map (fun j => defaultValue (en_ty (C, T, h2) j)))[j]? = some (defaultValue (en_ty (C, T, h2) j)) := by
          intro j hj
          rw [List.getElem?_map, List.getElem?_range hj]
          rfl
        refine es_new ((List.range h2).map (fun j => defaultValue (en_ty (C, T, h2) j))) o3 o1 (by simp) (fun ads j v hj => ?_) hcx fun H locs k n' ls rest ws hP hD hS hc hs hk => ?_
        · have hjl : j < h2 := by have := (List.getElem?_eq_some_iff.mp hj).1; omega
          obtain ⟨z1, z2⟩ := o7 j hjl
          rw [hj] at z1
          cases z1
          exact ⟨_, hv j hjl, ev_dflt (e2 j hjl) z2 ads⟩
        · refine va_new hx hb hts e1 (en_ty (C, T, h2)) e2 hown (hts _ (ev_w_in o4)) (hts _ (ev_w_in o5)) (hts _ (ev_w_in o6)) hK hP hD hS hA hq (fun j hj => ?_) hc hs hdg hk
          unfold vp_V
          rw [List.getD_eq_getElem?_getD, hv j hj]
          rfl
  case invokespecial idx =>
    simp only [ev_ok1, Bool.and_eq_true, Bool.or_eq_true, decide_eq_true_eq] at hok
    obtain ⟨hl, hok⟩ := hok
    subst hl
    show ev_sd p l e R s m args below meth c Q nL D cA A ads0 n0 s0 res call (if h3 = 9 then eo_none else if h3 = 2 then eo_obj else eo_spec h1 h2) pc 3
    by_cases h : h3 = 9
    · rw [if_pos h]; exact es_none
    · rw [if_neg h]
      have hok := hok.resolve_left h
      by_cases h' : h3 = 2
      · rw [if_pos h'] at hok ⊢
        simp only [Bool.and_eq_true] at hok
        obtain ⟨o1, o2, o3⟩ := hok
        exact es_obj fun H locs k n ls rest a hsz hsum hk => W.objInit hx hb hown (hts _ (ev_w_in o1)) (hts _ (ev_w_in o2)) (hts _ (ev_w_in o3)) rfl (by rw [hml]; exact hsz) rfl hdg (by omega) (by show 2 * 0 + _ + 12 ≤ _; omega) hk
      · rw [if_neg h'] at hok ⊢
        obtain ⟨M, o1, o2, o3, o4, o5, o6, o7, o8⟩ := ev_nop_ok hok
        simp only [Bool.and_eq_true, decide_eq_true_eq] at o2
        obtain ⟨o2, o9, o10⟩ := o2
        refine es_spec (M := M) rfl hcx (hcall h1 M o1) fun H locs cells slots mc ms ls rest As b Pc Qc free hM hp hn hsz hsum hf => ?_
        by_cases h'' : h3 = 1
        · have cw := ev_callN (mc := mc) (ms := ms) hcx (o3 h'') o5 o6 o7 o8
          rw [o10] at cw
          exact va_runIN ⟨hx, hb, hml, hown, hts⟩ hM ⟨cw, o9, hts _ (ev_w_in o2)⟩ hp rfl hn hsz rfl (by show 2 * 0 + _ ≤ 8; omega) hdg hf
        · have cw := ev_callB (mc := mc) (ms := ms) hcx (o4 h'') o5 o6 o7 o8
          rw [o10] at cw
          exact va_runI ⟨hx, hb, hml, hown, hts⟩ hM ⟨cw, o9, hts _ (ev_w_in o2)⟩ hp rfl hn hsz rfl (by show 2 * 0 + _ ≤ 8; omega) hdg hf
  case invokevirtual idx =>
    simp only [ev_ok1, Bool.and_eq_true, Bool.or_eq_true, decide_eq_true_eq] at hok
    obtain ⟨hl, hok⟩ := hok
    subst hl
    show ev_sd p l e R s m args below meth c Q nL D cA A ads0 n0 s0 res call (if h3 = 9 then eo_none else eo_virt h1 h2 h4) pc 3
    by_cases h : h3 = 9
    · rw [if_pos h]; exact es_none
    · rw [if_neg h]
      have hok := hok.resolve_left h
      obtain ⟨M, o1, o2, o3, o4, o5, o6, o7, o8⟩ := ev_nop_ok hok
      simp only [Bool.and_eq_true, decide_eq_true_eq] at o2
      obtain ⟨o2, o9, o10, o11⟩ := o2
      cases hq : en_classes[h4]? with
      | none => rw [hq] at o11; cases o11
      | some q =>
        obtain ⟨C, T, N⟩ := q
        rw [hq] at o11
        have hC : C = M.1.cls := Option.some.inj o11
        subst hC
        refine es_virt (M := M) rfl o10 hq hcx (hcall h1 M o1) fun H locs cells slots mc ms ls rest As b Pc Qc free hM hp hn hsz hsum hf => ?_
        by_cases h'' : h3 = 1
        · exact va_runVN ⟨hx, hb, hml, hown, hts⟩ hM ⟨ev_callN (mc := mc) (ms := ms) hcx (o3 h'') o5 o6 o7 o8, hts _ (ev_w_in o2), hts _ (ev_w_in o9)⟩ hp rfl hn hsz rfl (by show 2 * 0 + _ ≤ 8; omega) hdg hf
        · exact va_runV ⟨hx, hb, hml, hown, hts⟩ hM ⟨ev_callB (mc := mc) (ms := ms) hcx (o4 h'') o5 o6 o7 o8, hts _ (ev_w_in o2), hts _ (ev_w_in o9)⟩ hp rfl hn hsz rfl (by show 2 * 0 + _ ≤ 8; omega) hdg hf
  case invokestatic idx =>
    simp only [ev_ok1, Bool.and_eq_true, Bool.or_eq_true, decide_eq_true_eq] at hok
    obtain ⟨hl, hok⟩ := hok
    subst hl
    show ev_sd p l e R s m args below meth c Q nL D cA A ads0 n0 s0 res call (if h3 = 9 then eo_none else if h3 = 6 then eo_min else if h3 = 5 then eo_copy else eo_stat h1 h2) pc 3
    by_cases h : h3 = 9
    · rw [if_pos h]; exact es_none
    · rw [if_neg h]
      have hok := hok.resolve_left h
      by_cases h6 : h3 = 6
      · rw [if_pos h6] at hok ⊢
        simp only [Bool.and_eq_true] at hok
        obtain ⟨o1, o2, o3, o4⟩ := hok
        exact es_min hcx fun H locs k n ls rest x y hsz hsum hc hs hk => va_mmin hx hb (by rw [hml]; exact hsz.symm) hown (hts _ (ev_w_in o1)) (hts _ (ev_w_in o4)) (hts _ (ev_w_in o3)) (hts _ (ev_w_in o2)) (by omega) (by omega) hc hs hdg hk
      rw [if_neg h6] at hok ⊢
      by_cases h' : h3 = 5
      · rw [if_pos h'] at hok ⊢
        simp only [Bool.and_eq_true] at hok
        obtain ⟨o1, o2, o3, o4⟩ := hok
        refine es_copy fun H locs k' n' ls rest ws a0 a1 q0 q1 N0 N1 f g sp dp n hP hD hS ha0 ha1 z1 z2 z3 z4 z5 hsz hsum hk => ?_
        exact va_copyi hx hb (by rw [hml]; exact hsz.symm) hown (hts _ (ev_w_in o1)) (hts _ (ev_w_in o2)) (hts _ (ev_w_in o3)) (hts _ (ev_w_in o4)) hK hP hD hS q0 q1 0 0 ha0 ha1 rfl rfl rfl z1 z2 z3 z4 z5 (fun _ _ => rfl) (by omega) (by show _ + (7 + 11) ≤ _; omega) hdg hk
      · rw [if_neg h'] at hok ⊢
        obtain ⟨M, o1, o2, o3, o4, o5, o6, o7, o8⟩ := ev_nop_ok hok
        refine es_stat (M := M) rfl hcx (hcall h1 M o1) fun H locs cells slots mc ms ls rest As Pc Qc free hM hp hn hsz hsum hf => ?_
        by_cases h'' : h3 = 1
        · exact va_runSN ⟨hx, hb, hml, hown, hts⟩ hM ⟨ev_callN (mc := mc) (ms := ms) hcx (o3 h'') o5 o6 o7 o8, hts _ (ev_w_in o2), trivial⟩ hp rfl hn hsz rfl (by show 2 * 0 + _ ≤ 8; omega) hdg hf
        · exact va_runS ⟨hx, hb, hml, hown, hts⟩ hM ⟨ev_callB (mc := mc) (ms := ms) hcx (o4 h'') o5 o6 o7 o8, hts _ (ev_w_in o2)⟩ hp rfl hn hsz rfl (by show 2 * 0 + _ ≤ 8; omega) hdg hf
  all_goals exact es_none
end EvSem
end
section
noncomputable def ev_x (x : ev_I) : ev_X := (x.1, ev_sem x.1 x.2.1 x.2.2.2.1.1 x.2.2.2.1.2.1 x.2.2.2.1.2.2.1 x.2.2.2.1.2.2.2)
def ev_okL (MT : List ev_M) (own : String) (ini : Bool) (ret : Option FieldType) (cc : ByteArray) : List ev_I → Prop
  | [] => True
  | x :: r => ev_ok1 MT own ini ret x.1 x.2.1 x.2.2.1 x.2.2.2.1.1 x.2.2.2.1.2.1 x.2.2.2.1.2.2.1 x.2.2.2.1.2.2.2 x.2.2.2.2 = true ∧ decode cc x.1 = .ok (x.2.1, x.2.2.1) ∧ (∀ y r', r = y :: r' → y.1 = x.1 + x.2.2.1) ∧ ev_okL MT own ini ret cc r
theorem ev_seek_ok {MT : List ev_M} {own : String} {ini : Bool} {ret : Option FieldType} {cc : ByteArray} (t : Nat) : ∀ C : List ev_I, ev_okL MT own ini ret cc C → ∃ E, ev_seek (C.map ev_x) t = E.map ev_x ∧ ev_okL MT own ini ret cc E ∧ ∀ x r, E = x :: r → x.1 = t := by
  intro C
  induction C with
  | nil => intro _; exact ⟨[], rfl, trivial, fun _ _ h => by cases h⟩
  | cons x r ih =>
    intro h
    have hs : ev_seek ((x :: r).map ev_x) t = Bool.rec (motive := fun _ => List ev_X) (ev_seek (r.map ev_x) t) ((x :: r).map ev_x) (Nat.beq x.1 t) := rfl
    by_cases hz : Nat.beq x.1 t = true
    · rw [hs, hz]
      exact ⟨x :: r, rfl, h, fun y r' hy => by cases hy; exact Nat.eq_of_beq_eq_true hz⟩
    · rw [hs, Bool.eq_false_iff.mpr hz]
      exact ih h.2.2.2
theorem ev_pad_some (n : Nat) : ∀ {a : List ev_V} {k : List ev_V → ev_R} {r}, ev_pad n a k = some r → a.length ≤ n ∧ (∀ v ∈ a, v.1 ≤ 3) ∧ k (a ++ List.replicate (n - a.length) (9, 0, 0)) = some r := by
  induction n with
  | zero =>
    intro a k r h
    cases a with
    | nil => exact ⟨Nat.le_refl _, fun v hv => (by cases hv), h⟩
    | cons x xs => exact absurd h (by simp [ev_pad])
  | succ n ih =>
    intro a k r h
    cases a with
    | nil =>
      obtain ⟨h1, h2, h3⟩ := ih (a := []) (k := fun ys => k ((9, 0, 0) :: ys)) h
      exact ⟨Nat.zero_le _, fun v hv => (by cases hv), h3⟩
    | cons x xs =>
      have h' : (ev_if (Nat.ble x.1 3) (ev_pad n xs fun ys => k (x :: ys))) = some r := h
      obtain ⟨z1, h'⟩ := ev_if_some h'
      obtain ⟨h1, h2, h3⟩ := ih h'
      refine ⟨by simpa using h1, fun v hv => ?_, ?_⟩
      · rcases List.mem_cons.mp hv with rfl | hv
        · exact Nat.le_of_ble_eq_true z1
        · exact h2 v hv
      · have e : n + 1 - (x :: xs).length = n - xs.length := by simp
        rw [e]
        exact h3
theorem ev_sl {ads : List Nat} : ∀ {a : List ev_V} {vs : List Value}, ev_relS ads a vs → (∀ v ∈ a, v.1 ≤ 3) → (lg_sl vs).length = a.length ∧ ∀ (o i : Nat) (v : ev_V), a[i]? = some v → ∃ w, (o + i, w) ∈ lv_args o vs ∧ ev_rel ads v w := by
  intro a
  induction a with
  | nil =>
    intro vs h _
    rw [h.nil]
    exact ⟨rfl, fun o i v hi => by simp at hi⟩
  | cons x xs ih =>
    intro vs h h3
    obtain ⟨w, ws, rfl, h1, h2⟩ := h.cons
    have hc := h1.cat (h3 x List.mem_cons_self)
    obtain ⟨g1, g2⟩ := ih h2 (fun v hv => h3 v (List.mem_cons_of_mem _ hv))
    have e1 : lg_sl (w :: ws) = .val w :: lg_sl ws := by
      unfold lg_sl
      rw [List.flatMap_cons, if_neg (by rw [hc]; decide)]
      rfl
    refine ⟨by rw [e1]; simp [g1], fun o i v hi => ?_⟩
    have e2 : lv_args o (w :: ws) = (o, w) :: lv_args (o + 1) ws := by
      show (o, w) :: lv_args (if w.category = 2 then o + 2 else o + 1) ws = _
      rw [if_neg (by rw [hc]; decide)]
    rw [e2]
    cases i with
    | zero =>
      cases hi
      exact ⟨w, List.mem_cons_self, h1⟩
    | succ i =>
      rw [List.getElem?_cons_succ] at hi
      obtain ⟨w', q1, q2⟩ := g2 (o + 1) i v hi
      exact ⟨w', List.mem_cons_of_mem _ (by rw [show o + (i + 1) = o + 1 + i by omega]; exact q1), q2⟩
section EvExec
variable {p : Program} {l : Launch} {e : Env} {R : Room} {s : State} {m : MethodId} {args : Array Value} {below : List Frame} {meth : Method} {c : Code} {Q : State → Prop}
variable {cc : ByteArray} {own : String} {nL : Nat} {D : va_G} {cA : Nat → ClassId} {A : Nat → Prop} {ads0 : List Nat} {n0 s0 d : Nat} {res : ev_V × Nat × Nat × ev_H} {call : ev_Call}
theorem ev_run_ok {MT : List ev_M} {ini : Bool} {ret : Option FieldType} (hen : en_ok) (hcx : ev_cx p R s m args c cc own nL D cA A d n0 s0 res) (hname : ini = true → meth.name = "<init>")
    (hcall : ∀ k M, MT[k]? = some M → ∀ as ns nc h r, call k as ns nc h = some r → ev_Met l M d as ns nc h r)
    (hri : ret = some .int → ∀ (pc : Nat) (ads : List Nat) (ws : va_W) (H : Heap) (locs : List Loc) (ls : Array Slot) (x : Int32), (∃ x, ads = ads0 ++ x) → ev_wo D cA A ads ws res.2.2.1 res.2.2.2 H → va_S A s.heap H locs → ¬ res.1.1 = 9 → ev_rel ads res.1 (.int x) → decode cc pc = .ok (.ireturn, 1) → W p l e R s m args below meth c H locs (res.2.2.1 - n0) (res.2.1 - s0) Q (F0 m pc ls [.int x]))
    (hrz : ret = some .boolean → ∀ (pc : Nat) (ads : List Nat) (ws : va_W) (H : Heap) (locs : List Loc) (ls : Array Slot) (x : Int32), (∃ x, ads = ads0 ++ x) → ev_wo D cA A ads ws res.2.2.1 res.2.2.2 H → va_S A s.heap H locs → ¬ res.1.1 = 9 → ev_rel ads res.1 (.int x) → (x = 0 ∨ x = 1) → decode cc pc = .ok (.ireturn, 1) → W p l e R s m args below meth c H locs (res.2.2.1 - n0) (res.2.1 - s0) Q (F0 m pc ls [.int x]))
    (hrv : ret = none → ∀ (pc : Nat) (ads : List Nat) (ws : va_W) (H : Heap) (locs : List Loc) (ls : Array Slot), (∃ x, ads = ads0 ++ x) → ev_wo D cA A ads ws res.2.2.1 res.2.2.2 H → va_S A s.heap H locs → res.1.1 = 9 → decode cc pc = .ok (.return_, 1) → W p l e R s m args below meth c H locs (res.2.2.1 - n0) (res.2.1 - s0) Q (F0 m pc ls []))
    (C : List ev_I) (hC : ev_okL MT own ini ret cc C) : ∀ (fuel : Nat) (E : List ev_I), ev_okL MT own ini ret cc E → ∀ (al st : List ev_V) (ns nc : Nat) (h : ev_H), ev_run call (C.map ev_x) fuel (E.map ev_x) al st ns nc h = some res → ∃ x r, E = x :: r ∧ ev_gd p l e R s m args below meth c Q nL D cA A ads0 n0 s0 res x.1 al st ns nc h := by
  intro fuel
  induction fuel with
  | zero => intro E hE al st ns nc h hh; exact absurd hh (by simp [ev_run])
  | succ f ih =>
    intro E hE al st ns nc h hh
    cases E with
    | nil => exact absurd hh (by simp [ev_run])
    | cons x r =>
      refine ⟨x, r, rfl, ?_⟩
      obtain ⟨o1, o2, o3, o4⟩ := hE
      have hsd := ev_sem_ok (below := below) (l := l) (e := e) (Q := Q) (ads0 := ads0) hen hcx hname hcall (fun z => hri z x.1) (fun z => hrz z x.1) (fun z => hrv z x.1) o1 o2
      refine hsd _ _ al st ns nc h hh ?_ ?_
      · intro al st ns nc h hk
        obtain ⟨y, r', hy, hg⟩ := ih r o4 al st ns nc h hk
        rw [← o3 y r' hy]
        exact hg
      · intro t al st ns nc h hk
        obtain ⟨E', e1, e2, e3⟩ := ev_seek_ok t C hC
        have hk' : ev_run call (C.map ev_x) f (ev_seek (C.map ev_x) t) al st ns nc h = some res := hk
        rw [e1] at hk'
        obtain ⟨y, r', hy, hg⟩ := ih E' e2 al st ns nc h hk'
        rw [← e3 y r' hy]
        exact hg
end EvExec
def ev_okM (XT : ev_T (Nat × List ev_X) 8) (MT : List ev_M) : Prop := ∀ (k : Nat) (M : ev_M), MT[k]? = some M → ∃ (x : ev_I) (r : List ev_I), x.1 = 0 ∧ ev_tget 8 XT k id = (M.2.2.1, (x :: r).map ev_x) ∧ ev_okL MT M.1.cls (M.1.name == "<init>") M.2.2.2 M.2.1 (x :: r) ∧ plainName M.1.cls = true
theorem ev_exec_ok {XT : ev_T (Nat × List ev_X) 8} {MT : List ev_M} {fuel : Nat} (hen : en_ok) (hM : ev_okM XT MT) (l : Launch) : ∀ (d k : Nat) (M : ev_M), MT[k]? = some M → ∀ (as : List ev_V) (ns nc : Nat) (h : ev_H) (res : ev_V × Nat × Nat × ev_H), ev_exec XT fuel d k as ns nc h = some res → ev_Met l M d as ns nc h res := by
  intro d
  induction d with
  | zero => intro k M _ as ns nc h res hh; exact absurd hh (by simp [ev_exec])
  | succ d ih =>
    intro k M hk as ns nc h res hh
    obtain ⟨x0, r0, hx0, hXT, hokL, hpl⟩ := hM k M hk
    have hh' : (ev_tget 8 XT k fun M => Prod.rec (motive := fun _ => ev_R) (fun n code => ev_pad n as fun al => ev_ok (ev_run (ev_exec XT fuel d) code fuel code al [] ns nc h) fun v ns' nc' h' => ev_if (Nat.ble nc nc') (ev_if (Nat.ble ns ns') (some (v, ns', nc', h')))) M) = some res := hh
    rw [ev_tget_k, hXT] at hh'
    obtain ⟨p1, p2, hh2⟩ := ev_pad_some _ hh'
    obtain ⟨q, hrun, hh3⟩ := ev_ok_some hh2
    obtain ⟨m1, hh3⟩ := ev_if_some hh3
    obtain ⟨m2, hh3⟩ := ev_if_some hh3
    have m1 := Nat.le_of_ble_eq_true m1
    have m2 := Nat.le_of_ble_eq_true m2
    cases hh3
    refine ⟨m1, m2, fun D cA ads ws vs sz hrel => ?_⟩
    refine Met.ofW (cc := M.2.1) (maxL := M.2.2.1) (ret := M.2.2.2) hpl rfl ?_
    intro p e s m args below meth c s₁ B hml hv
    obtain ⟨rfl, hsz, hwo, hK, hNw⟩ := hv
    subst hsz
    have hx := B.exec
    have hb := B.bytes
    have hr := B.returns
    have hts := atoms_spec (ws := ev_ws M) B.pre
    have hown : s.vm.findClass M.1.cls = some m.cls := findClass_of_methodNamed B.named
    have hlocks := B.notSynchronized
    have hin : meth.name = M.1.name := (name_of_methodNamed B.named B.method).1
    have hA : ∀ q, s.heap.size ≤ q → va_A ws s.heap.size q := fun q hq => Or.inr hq
    have hwo2 : ev_wo D cA (va_A ws s.heap.size) ads ws nc h s.heap := hwo.any (fun k q hk _ => va_A.in hk)
    have hcx : ev_cx p (headSpec (ev_ws M) (ev_rm (d + 1) (q.2.2.1 - nc) (q.2.1 - ns))).room s m vs.toArray c M.2.1 M.1.cls M.2.2.1 D cA (va_A ws s.heap.size) d nc ns (q.1, q.2.1, q.2.2.1, q.2.2.2) :=
      ⟨hx, hb, fun w hw => hts w (List.mem_cons_of_mem _ hw), hown, hK, hA, hml, rfl, rfl, by show q.2.2.1 ≤ nc + (q.2.2.1 - nc); omega, by show q.2.1 ≤ ns + (q.2.1 - ns); omega, hNw⟩
    obtain ⟨f1, f2⟩ := ev_sl hrel p2
    have hlv := lv_entry vs (n := M.2.2.1) (by rw [f1]; exact p1)
    rw [lg_entry_eq]
    have hq : ∀ (ads' : List Nat) (ws' : va_W) (H : Heap) (locs : List Loc) (v : Option Value), (∃ x, ads' = ads ++ x) → ev_wo D cA (va_A ws s.heap.size) ads' ws' q.2.2.1 q.2.2.2 H → va_S (va_A ws s.heap.size) s.heap H locs → ev_ret ads' q.1 v → ∀ t : State, t.heap = H → s.WarmedH t.vm → ev_Qc D cA ads ws s.heap.size q vs.toArray s (.returned v) t :=
      fun ads' ws' H locs v hp hwo' hS hret t ht _ => ⟨⟨ads', ws', v, rfl, hp, by rw [ht]; exact hwo', hret⟩, hS.F ht⟩
    obtain ⟨y, r, hy, -, -, hg⟩ := ev_run_ok (l := l) (e := e) (below := below) (ads0 := ads) (Q := MQ below (ev_Qc D cA ads ws s.heap.size q) vs.toArray s (q.2.2.1 - nc) (q.2.1 - ns) (va_A ws s.heap.size)) hen hcx (fun z => hin.trans (eq_of_beq z)) (fun k M hk as ns nc h r hr => ih k M hk as ns nc h r hr)
      (fun z pc ads' ws' H locs ls x hp hwo' hS h9 hrel' hd => W.iret hx hb (hr.trans z) (hq ads' ws' H locs _ hp hwo' hS (Or.inr ⟨h9, _, rfl, hrel'⟩)) hS.2.2 hd)
      (fun z pc ads' ws' H locs ls x hp hwo' hS h9 hrel' h01 hd => W.zret hx hb (hr.trans z) (by rcases h01 with rfl | rfl <;> decide) (hq ads' ws' H locs _ hp hwo' hS (Or.inr ⟨h9, _, rfl, hrel'⟩)) hS.2.2 hd)
      (fun z pc ads' ws' H locs ls hp hwo' hS h9 hd => W.vret hx hb (hr.trans z) (hq ads' ws' H locs _ hp hwo' hS (Or.inl ⟨h9, rfl⟩)) hS.2.2 hd)
      (x0 :: r0) hokL fuel (x0 :: r0) hokL _ _ _ _ _ hrun
    cases hy
    rw [hx0] at hg
    have := hg ads ws s.heap [] _ [] ⟨[], by simp⟩ (Nat.le_refl _) (Nat.le_refl _) hwo2 va_S.rf ⟨by simp; omega, _, hlv, fun i v hi hv => ?_⟩ trivial
    · rw [Nat.sub_self, Nat.sub_self] at this
      exact this
    · by_cases hil : i < as.length
      · rw [List.getElem?_append_left hil] at hi
        obtain ⟨w, q1, q2⟩ := f2 0 i v hi
        exact ⟨w, by rw [Nat.zero_add] at q1; exact q1, q2⟩
      · rw [List.getElem?_append_right (by omega)] at hi
        have := List.eq_of_mem_replicate (List.mem_of_getElem? hi)
        rw [this] at hv
        exact absurd hv (by decide)
end
