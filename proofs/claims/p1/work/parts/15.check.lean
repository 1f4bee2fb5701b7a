/-! THE CHECK of the tables -/
def ev_chk (MT : List ev_M) (own : String) (ini : Bool) (ret : Option FieldType) (cc : ByteArray) : List ev_I → Bool
  | [] => true
  | x :: r => ev_ok1 MT own ini ret x.1 x.2.1 x.2.2.1 x.2.2.2.1.1 x.2.2.2.1.2.1 x.2.2.2.1.2.2.1 x.2.2.2.1.2.2.2 x.2.2.2.2 && (decide (decode cc x.1 = .ok (x.2.1, x.2.2.1)) && ((match r with | [] => true | y :: _ => Nat.beq y.1 (x.1 + x.2.2.1)) && ev_chk MT own ini ret cc r))
theorem ev_chk_ok {MT : List ev_M} {own : String} {ini : Bool} {ret : Option FieldType} {cc : ByteArray} : ∀ C : List ev_I, ev_chk MT own ini ret cc C = true → ev_okL MT own ini ret cc C := by
  intro C
  induction C with
  | nil => intro _; trivial
  | cons x r ih =>
    intro h
    simp only [ev_chk, Bool.and_eq_true, decide_eq_true_eq] at h
    obtain ⟨h1, h2, h3, h4⟩ := h
    refine ⟨h1, h2, fun y r' hr => ?_, ih h4⟩
    subst hr
    exact Nat.eq_of_beq_eq_true h3
def ev_P (k : Nat) (M : ev_M) : Prop := ∃ (x : ev_I) (r : List ev_I), x.1 = 0 ∧ ev_tget 8 ev_XT k id = (M.2.2.1, (x :: r).map ev_x) ∧ ev_okL ev_MT M.1.cls (M.1.name == "<init>") M.2.2.2 M.2.1 (x :: r) ∧ plainName M.1.cls = true
def ev_allP : Nat → List ev_M → Prop
  | _, [] => True
  | i, M :: r => ev_P i M ∧ ev_allP (i + 1) r
theorem ev_allP_get : ∀ (L : List ev_M) (i : Nat), ev_allP i L → ∀ k M, L[k]? = some M → ev_P (i + k) M := by
  intro L
  induction L with
  | nil => intro i _ k M h; simp at h
  | cons x r ih =>
    intro i h k M hk
    cases k with
    | zero => cases hk; exact h.1
    | succ k =>
      rw [List.getElem?_cons_succ] at hk
      have := ih (i + 1) h.2 k M hk
      rw [show i + (k + 1) = i + 1 + k by omega]
      exact this
theorem ek_0 : ev_chk ev_MT "MeadowSigns$Formula" true (none) prog_2_method_1_code evc_0 = true := by decide +kernel
theorem ex_0 : evx_0 = evc_0.map ev_x := rfl
theorem em_0 : ev_P 0 (⟨"MeadowSigns$Formula", "<init>", "(I)V"⟩, prog_2_method_1_code, 2, none) := ⟨_, _, rfl, (show ev_tget 8 ev_XT 0 id = (2, evx_0) from rfl).trans (congrArg (Prod.mk 2) ex_0), ev_chk_ok _ ek_0, by decide +kernel⟩
theorem ek_1 : ev_chk ev_MT "MeadowSigns$Formula" false (none) prog_2_method_2_code evc_1 = true := by decide +kernel
theorem ex_1 : evx_1 = evc_1.map ev_x := rfl
theorem em_1 : ev_P 1 (⟨"MeadowSigns$Formula", "clear", "()V"⟩, prog_2_method_2_code, 1, none) := ⟨_, _, rfl, (show ev_tget 8 ev_XT 1 id = (1, evx_1) from rfl).trans (congrArg (Prod.mk 1) ex_1), ev_chk_ok _ ek_1, by decide +kernel⟩
theorem ek_2 : ev_chk ev_MT "MeadowSigns$Hearsay" true (none) prog_3_method_1_code evc_2 = true := by decide +kernel
theorem ex_2 : evx_2 = evc_2.map ev_x := rfl
theorem em_2 : ev_P 2 (⟨"MeadowSigns$Hearsay", "<init>", "()V"⟩, prog_3_method_1_code, 1, none) := ⟨_, _, rfl, (show ev_tget 8 ev_XT 2 id = (1, evx_2) from rfl).trans (congrArg (Prod.mk 1) ex_2), ev_chk_ok _ ek_2, by decide +kernel⟩
theorem ek_3 : ev_chk ev_MT "MeadowSigns$Hearsay" false (none) prog_3_method_2_code evc_3 = true := by decide +kernel
theorem ex_3 : evx_3 = evc_3.map ev_x := rfl
theorem em_3 : ev_P 3 (⟨"MeadowSigns$Hearsay", "begin", "(I)V"⟩, prog_3_method_2_code, 2, none) := ⟨_, _, rfl, (show ev_tget 8 ev_XT 3 id = (2, evx_3) from rfl).trans (congrArg (Prod.mk 2) ex_3), ev_chk_ok _ ek_3, by decide +kernel⟩
theorem ek_4 : ev_chk ev_MT "MeadowSigns$Hearsay" false (some .boolean) prog_3_method_3_code evc_4 = true := by decide +kernel
theorem ex_4 : evx_4 = evc_4.map ev_x := rfl
theorem em_4 : ev_P 4 (⟨"MeadowSigns$Hearsay", "isOne", "(I)Z"⟩, prog_3_method_3_code, 2, some .boolean) := ⟨_, _, rfl, (show ev_tget 8 ev_XT 4 id = (2, evx_4) from rfl).trans (congrArg (Prod.mk 2) ex_4), ev_chk_ok _ ek_4, by decide +kernel⟩
theorem ek_5 : ev_chk ev_MT "MeadowSigns$Hearsay" false (some .int) prog_3_method_5_code evc_5 = true := by decide +kernel
theorem ex_5 : evx_5 = evc_5.map ev_x := rfl
theorem em_5 : ev_P 5 (⟨"MeadowSigns$Hearsay", "hear", "(IIIZ)I"⟩, prog_3_method_5_code, 5, some .int) := ⟨_, _, rfl, (show ev_tget 8 ev_XT 5 id = (5, evx_5) from rfl).trans (congrArg (Prod.mk 5) ex_5), ev_chk_ok _ ek_5, by decide +kernel⟩
theorem ek_6 : ev_chk ev_MT "MeadowSigns$Hearsay" false (some .boolean) prog_3_method_6_code evc_6 = true := by decide +kernel
theorem ex_6 : evx_6 = evc_6.map ev_x := rfl
theorem em_6 : ev_P 6 (⟨"MeadowSigns$Hearsay", "takeBack", "(I)Z"⟩, prog_3_method_6_code, 2, some .boolean) := ⟨_, _, rfl, (show ev_tget 8 ev_XT 6 id = (2, evx_6) from rfl).trans (congrArg (Prod.mk 2) ex_6), ev_chk_ok _ ek_6, by decide +kernel⟩
theorem ek_7 : ev_chk ev_MT "MeadowSigns$Hearsay" false (some .int) prog_3_method_7_code evc_7 = true := by decide +kernel
theorem ex_7 : evx_7 = evc_7.map ev_x := rfl
theorem em_7 : ev_P 7 (⟨"MeadowSigns$Hearsay", "goOn", "(I)I"⟩, prog_3_method_7_code, 2, some .int) := ⟨_, _, rfl, (show ev_tget 8 ev_XT 7 id = (2, evx_7) from rfl).trans (congrArg (Prod.mk 2) ex_7), ev_chk_ok _ ek_7, by decide +kernel⟩
theorem ek_8 : ev_chk ev_MT "MeadowSigns$Hearsay" false (some .int) prog_3_method_9_code evc_8 = true := by decide +kernel
theorem ex_8 : evx_8 = evc_8.map ev_x := rfl
theorem em_8 : ev_P 8 (⟨"MeadowSigns$Hearsay", "grammars", "(II)I"⟩, prog_3_method_9_code, 7, some .int) := ⟨_, _, rfl, (show ev_tget 8 ev_XT 8 id = (7, evx_8) from rfl).trans (congrArg (Prod.mk 7) ex_8), ev_chk_ok _ ek_8, by decide +kernel⟩
theorem ek_9 : ev_chk ev_MT "MeadowSigns$Hearsay" false (some .int) prog_3_method_11_code evc_9 = true := by decide +kernel
theorem ex_9 : evx_9 = evc_9.map ev_x := rfl
theorem em_9 : ev_P 9 (⟨"MeadowSigns$Hearsay", "choicesFrom", "(II)I"⟩, prog_3_method_11_code, 6, some .int) := ⟨_, _, rfl, (show ev_tget 8 ev_XT 9 id = (6, evx_9) from rfl).trans (congrArg (Prod.mk 6) ex_9), ev_chk_ok _ ek_9, by decide +kernel⟩
theorem ek_10 : ev_chk ev_MT "MeadowSigns$Hearsay" false (some .int) prog_3_method_12_code evc_10 = true := by decide +kernel
theorem ex_10 : evx_10 = evc_10.map ev_x := rfl
theorem em_10 : ev_P 10 (⟨"MeadowSigns$Hearsay", "certainty", "(III)I"⟩, prog_3_method_12_code, 6, some .int) := ⟨_, _, rfl, (show ev_tget 8 ev_XT 10 id = (6, evx_10) from rfl).trans (congrArg (Prod.mk 6) ex_10), ev_chk_ok _ ek_10, by decide +kernel⟩
theorem ek_11 : ev_chk ev_MT "MeadowSigns$Hearsay" false (some .int) prog_3_method_13_code evc_11 = true := by decide +kernel
theorem ex_11 : evx_11 = evc_11.map ev_x := rfl
theorem em_11 : ev_P 11 (⟨"MeadowSigns$Hearsay", "question", "(II)I"⟩, prog_3_method_13_code, 10, some .int) := ⟨_, _, rfl, (show ev_tget 8 ev_XT 11 id = (10, evx_11) from rfl).trans (congrArg (Prod.mk 10) ex_11), ev_chk_ok _ ek_11, by decide +kernel⟩
theorem ek_12 : ev_chk ev_MT "MeadowSigns$History" true (none) prog_4_method_1_code evc_12 = true := by decide +kernel
theorem ex_12 : evx_12 = evc_12.map ev_x := rfl
theorem em_12 : ev_P 12 (⟨"MeadowSigns$History", "<init>", "()V"⟩, prog_4_method_1_code, 1, none) := ⟨_, _, rfl, (show ev_tget 8 ev_XT 12 id = (1, evx_12) from rfl).trans (congrArg (Prod.mk 1) ex_12), ev_chk_ok _ ek_12, by decide +kernel⟩
theorem ek_13 : ev_chk ev_MT "MeadowSigns$History" false (none) prog_4_method_2_code evc_13 = true := by decide +kernel
theorem ex_13 : evx_13 = evc_13.map ev_x := rfl
theorem em_13 : ev_P 13 (⟨"MeadowSigns$History", "forget", "(LMeadowSigns$State;)V"⟩, prog_4_method_2_code, 2, none) := ⟨_, _, rfl, (show ev_tget 8 ev_XT 13 id = (2, evx_13) from rfl).trans (congrArg (Prod.mk 2) ex_13), ev_chk_ok _ ek_13, by decide +kernel⟩
theorem ek_14 : ev_chk ev_MT "MeadowSigns$History" false (none) prog_4_method_3_code evc_14 = true := by decide +kernel
theorem ex_14 : evx_14 = evc_14.map ev_x := rfl
theorem em_14 : ev_P 14 (⟨"MeadowSigns$History", "keep", "(LMeadowSigns$State;)V"⟩, prog_4_method_3_code, 2, none) := ⟨_, _, rfl, (show ev_tget 8 ev_XT 14 id = (2, evx_14) from rfl).trans (congrArg (Prod.mk 2) ex_14), ev_chk_ok _ ek_14, by decide +kernel⟩
theorem ek_15 : ev_chk ev_MT "MeadowSigns$History" false (some .int) prog_4_method_4_code evc_15 = true := by decide +kernel
theorem ex_15 : evx_15 = evc_15.map ev_x := rfl
theorem em_15 : ev_P 15 (⟨"MeadowSigns$History", "slot", "()I"⟩, prog_4_method_4_code, 1, some .int) := ⟨_, _, rfl, (show ev_tget 8 ev_XT 15 id = (1, evx_15) from rfl).trans (congrArg (Prod.mk 1) ex_15), ev_chk_ok _ ek_15, by decide +kernel⟩
theorem ek_16 : ev_chk ev_MT "MeadowSigns$History" false (some .boolean) prog_4_method_5_code evc_16 = true := by decide +kernel
theorem ex_16 : evx_16 = evc_16.map ev_x := rfl
theorem em_16 : ev_P 16 (⟨"MeadowSigns$History", "stepBack", "(LMeadowSigns$State;)Z"⟩, prog_4_method_5_code, 2, some .boolean) := ⟨_, _, rfl, (show ev_tget 8 ev_XT 16 id = (2, evx_16) from rfl).trans (congrArg (Prod.mk 2) ex_16), ev_chk_ok _ ek_16, by decide +kernel⟩
theorem ek_17 : ev_chk ev_MT "MeadowSigns$History" false (some .boolean) prog_4_method_6_code evc_17 = true := by decide +kernel
theorem ex_17 : evx_17 = evc_17.map ev_x := rfl
theorem em_17 : ev_P 17 (⟨"MeadowSigns$History", "stepOn", "(LMeadowSigns$State;)Z"⟩, prog_4_method_6_code, 2, some .boolean) := ⟨_, _, rfl, (show ev_tget 8 ev_XT 17 id = (2, evx_17) from rfl).trans (congrArg (Prod.mk 2) ex_17), ev_chk_ok _ ek_17, by decide +kernel⟩
theorem ek_18 : ev_chk ev_MT "MeadowSigns$History" false (none) prog_4_method_7_code evc_18 = true := by decide +kernel
theorem ex_18 : evx_18 = evc_18.map ev_x := rfl
theorem em_18 : ev_P 18 (⟨"MeadowSigns$History", "emptyBoxes", "()V"⟩, prog_4_method_7_code, 1, none) := ⟨_, _, rfl, (show ev_tget 8 ev_XT 18 id = (1, evx_18) from rfl).trans (congrArg (Prod.mk 1) ex_18), ev_chk_ok _ ek_18, by decide +kernel⟩
theorem ek_19 : ev_chk ev_MT "MeadowSigns$History" false (some .boolean) prog_4_method_8_code evc_19 = true := by decide +kernel
theorem ex_19 : evx_19 = evc_19.map ev_x := rfl
theorem em_19 : ev_P 19 (⟨"MeadowSigns$History", "fillBox", "(LMeadowSigns$State;I)Z"⟩, prog_4_method_8_code, 3, some .boolean) := ⟨_, _, rfl, (show ev_tget 8 ev_XT 19 id = (3, evx_19) from rfl).trans (congrArg (Prod.mk 3) ex_19), ev_chk_ok _ ek_19, by decide +kernel⟩
theorem ek_20 : ev_chk ev_MT "MeadowSigns$History" false (some .boolean) prog_4_method_9_code evc_20 = true := by decide +kernel
theorem ex_20 : evx_20 = evc_20.map ev_x := rfl
theorem em_20 : ev_P 20 (⟨"MeadowSigns$History", "takeBox", "(LMeadowSigns$State;I)Z"⟩, prog_4_method_9_code, 3, some .boolean) := ⟨_, _, rfl, (show ev_tget 8 ev_XT 20 id = (3, evx_20) from rfl).trans (congrArg (Prod.mk 3) ex_20), ev_chk_ok _ ek_20, by decide +kernel⟩
theorem ek_21 : ev_chk ev_MT "MeadowSigns$Parser" true (none) prog_5_method_1_code evc_21 = true := by decide +kernel
theorem ex_21 : evx_21 = evc_21.map ev_x := rfl
theorem em_21 : ev_P 21 (⟨"MeadowSigns$Parser", "<init>", "(LMeadowSigns$Told;)V"⟩, prog_5_method_1_code, 2, none) := ⟨_, _, rfl, (show ev_tget 8 ev_XT 21 id = (2, evx_21) from rfl).trans (congrArg (Prod.mk 2) ex_21), ev_chk_ok _ ek_21, by decide +kernel⟩
theorem ek_22 : ev_chk ev_MT "MeadowSigns$Parser" false (some .boolean) prog_5_method_2_code evc_22 = true := by decide +kernel
theorem ex_22 : evx_22 = evc_22.map ev_x := rfl
theorem em_22 : ev_P 22 (⟨"MeadowSigns$Parser", "parse", "(LMeadowSigns$Told;)Z"⟩, prog_5_method_2_code, 3, some .boolean) := ⟨_, _, rfl, (show ev_tget 8 ev_XT 22 id = (3, evx_22) from rfl).trans (congrArg (Prod.mk 3) ex_22), ev_chk_ok _ ek_22, by decide +kernel⟩
theorem ek_23 : ev_chk ev_MT "MeadowSigns$Planner" true (none) prog_6_method_1_code evc_23 = true := by decide +kernel
theorem ex_23 : evx_23 = evc_23.map ev_x := rfl
theorem em_23 : ev_P 23 (⟨"MeadowSigns$Planner", "<init>", "(LMeadowSigns$Told;)V"⟩, prog_6_method_1_code, 2, none) := ⟨_, _, rfl, (show ev_tget 8 ev_XT 23 id = (2, evx_23) from rfl).trans (congrArg (Prod.mk 2) ex_23), ev_chk_ok _ ek_23, by decide +kernel⟩
theorem ek_24 : ev_chk ev_MT "MeadowSigns$Planner" false (none) prog_6_method_2_code evc_24 = true := by decide +kernel
theorem ex_24 : evx_24 = evc_24.map ev_x := rfl
theorem em_24 : ev_P 24 (⟨"MeadowSigns$Planner", "clear", "()V"⟩, prog_6_method_2_code, 1, none) := ⟨_, _, rfl, (show ev_tget 8 ev_XT 24 id = (1, evx_24) from rfl).trans (congrArg (Prod.mk 1) ex_24), ev_chk_ok _ ek_24, by decide +kernel⟩
theorem ek_25 : ev_chk ev_MT "MeadowSigns$Planner" false (none) prog_6_method_3_code evc_25 = true := by decide +kernel
theorem ex_25 : evx_25 = evc_25.map ev_x := rfl
theorem em_25 : ev_P 25 (⟨"MeadowSigns$Planner", "lay", "(I)V"⟩, prog_6_method_3_code, 2, none) := ⟨_, _, rfl, (show ev_tget 8 ev_XT 25 id = (2, evx_25) from rfl).trans (congrArg (Prod.mk 2) ex_25), ev_chk_ok _ ek_25, by decide +kernel⟩
theorem ek_26 : ev_chk ev_MT "MeadowSigns$Planner" false (some .int) prog_6_method_4_code evc_26 = true := by decide +kernel
theorem ex_26 : evx_26 = evc_26.map ev_x := rfl
theorem em_26 : ev_P 26 (⟨"MeadowSigns$Planner", "lyingAt", "(I)I"⟩, prog_6_method_4_code, 2, some .int) := ⟨_, _, rfl, (show ev_tget 8 ev_XT 26 id = (2, evx_26) from rfl).trans (congrArg (Prod.mk 2) ex_26), ev_chk_ok _ ek_26, by decide +kernel⟩
theorem ek_27 : ev_chk ev_MT "MeadowSigns$Planner" false (none) prog_6_method_5_code evc_27 = true := by decide +kernel
theorem ex_27 : evx_27 = evc_27.map ev_x := rfl
theorem em_27 : ev_P 27 (⟨"MeadowSigns$Planner", "begin", "(LMeadowSigns$Told;LMeadowSigns$State;)V"⟩, prog_6_method_5_code, 3, none) := ⟨_, _, rfl, (show ev_tget 8 ev_XT 27 id = (3, evx_27) from rfl).trans (congrArg (Prod.mk 3) ex_27), ev_chk_ok _ ek_27, by decide +kernel⟩
theorem ek_28 : ev_chk ev_MT "MeadowSigns$Planner" false (some .boolean) prog_6_method_6_code evc_28 = true := by decide +kernel
theorem ex_28 : evx_28 = evc_28.map ev_x := rfl
theorem em_28 : ev_P 28 (⟨"MeadowSigns$Planner", "harms", "(I)Z"⟩, prog_6_method_6_code, 2, some .boolean) := ⟨_, _, rfl, (show ev_tget 8 ev_XT 28 id = (2, evx_28) from rfl).trans (congrArg (Prod.mk 2) ex_28), ev_chk_ok _ ek_28, by decide +kernel⟩
theorem ek_29 : ev_chk ev_MT "MeadowSigns$Planner" false (some .boolean) prog_6_method_9_code evc_29 = true := by decide +kernel
theorem ex_29 : evx_29 = evc_29.map ev_x := rfl
theorem em_29 : ev_P 29 (⟨"MeadowSigns$Planner", "wishForOneReading", "()Z"⟩, prog_6_method_9_code, 2, some .boolean) := ⟨_, _, rfl, (show ev_tget 8 ev_XT 29 id = (2, evx_29) from rfl).trans (congrArg (Prod.mk 2) ex_29), ev_chk_ok _ ek_29, by decide +kernel⟩
theorem ek_30 : ev_chk ev_MT "MeadowSigns$Planner" false (some .int) prog_6_method_10_code evc_30 = true := by decide +kernel
theorem ex_30 : evx_30 = evc_30.map ev_x := rfl
theorem em_30 : ev_P 30 (⟨"MeadowSigns$Planner", "fewestChanges", "()I"⟩, prog_6_method_10_code, 2, some .int) := ⟨_, _, rfl, (show ev_tget 8 ev_XT 30 id = (2, evx_30) from rfl).trans (congrArg (Prod.mk 2) ex_30), ev_chk_ok _ ek_30, by decide +kernel⟩
theorem ek_31 : ev_chk ev_MT "MeadowSigns$Planner" false (some .boolean) prog_6_method_11_code evc_31 = true := by decide +kernel
theorem ex_31 : evx_31 = evc_31.map ev_x := rfl
theorem em_31 : ev_P 31 (⟨"MeadowSigns$Planner", "changeFrom", "(III)Z"⟩, prog_6_method_11_code, 6, some .boolean) := ⟨_, _, rfl, (show ev_tget 8 ev_XT 31 id = (6, evx_31) from rfl).trans (congrArg (Prod.mk 6) ex_31), ev_chk_ok _ ek_31, by decide +kernel⟩
theorem ek_32 : ev_chk ev_MT "MeadowSigns$Planner" false (some .boolean) prog_6_method_12_code evc_32 = true := by decide +kernel
theorem ex_32 : evx_32 = evc_32.map ev_x := rfl
theorem em_32 : ev_P 32 (⟨"MeadowSigns$Planner", "meetsGoal", "(I)Z"⟩, prog_6_method_12_code, 3, some .boolean) := ⟨_, _, rfl, (show ev_tget 8 ev_XT 32 id = (3, evx_32) from rfl).trans (congrArg (Prod.mk 3) ex_32), ev_chk_ok _ ek_32, by decide +kernel⟩
theorem ek_33 : ev_chk ev_MT "MeadowSigns$Planner" false (some .boolean) prog_6_method_13_code evc_33 = true := by decide +kernel
theorem ex_33 : evx_33 = evc_33.map ev_x := rfl
theorem em_33 : ev_P 33 (⟨"MeadowSigns$Planner", "hasWantedSigns", "()Z"⟩, prog_6_method_13_code, 2, some .boolean) := ⟨_, _, rfl, (show ev_tget 8 ev_XT 33 id = (2, evx_33) from rfl).trans (congrArg (Prod.mk 2) ex_33), ev_chk_ok _ ek_33, by decide +kernel⟩
theorem ek_34 : ev_chk ev_MT "MeadowSigns$Planner" false (some .int) prog_6_method_14_code evc_34 = true := by decide +kernel
theorem ex_34 : evx_34 = evc_34.map ev_x := rfl
theorem em_34 : ev_P 34 (⟨"MeadowSigns$Planner", "countOrders", "(I)I"⟩, prog_6_method_14_code, 5, some .int) := ⟨_, _, rfl, (show ev_tget 8 ev_XT 34 id = (5, evx_34) from rfl).trans (congrArg (Prod.mk 5) ex_34), ev_chk_ok _ ek_34, by decide +kernel⟩
theorem ek_35 : ev_chk ev_MT "MeadowSigns$Planner" false (some .int) prog_6_method_15_code evc_35 = true := by decide +kernel
theorem ex_35 : evx_35 = evc_35.map ev_x := rfl
theorem em_35 : ev_P 35 (⟨"MeadowSigns$Planner", "listMembers", "(I)I"⟩, prog_6_method_15_code, 4, some .int) := ⟨_, _, rfl, (show ev_tget 8 ev_XT 35 id = (4, evx_35) from rfl).trans (congrArg (Prod.mk 4) ex_35), ev_chk_ok _ ek_35, by decide +kernel⟩
theorem ek_36 : ev_chk ev_MT "MeadowSigns$Planner" false (some .int) prog_6_method_16_code evc_36 = true := by decide +kernel
theorem ex_36 : evx_36 = evc_36.map ev_x := rfl
theorem em_36 : ev_P 36 (⟨"MeadowSigns$Planner", "cellsOfPart", "(II)I"⟩, prog_6_method_16_code, 5, some .int) := ⟨_, _, rfl, (show ev_tget 8 ev_XT 36 id = (5, evx_36) from rfl).trans (congrArg (Prod.mk 5) ex_36), ev_chk_ok _ ek_36, by decide +kernel⟩
theorem ek_37 : ev_chk ev_MT "MeadowSigns$Planner" false (some .int) prog_6_method_17_code evc_37 = true := by decide +kernel
theorem ex_37 : evx_37 = evc_37.map ev_x := rfl
theorem em_37 : ev_P 37 (⟨"MeadowSigns$Planner", "waysOn", "(II)I"⟩, prog_6_method_17_code, 5, some .int) := ⟨_, _, rfl, (show ev_tget 8 ev_XT 37 id = (5, evx_37) from rfl).trans (congrArg (Prod.mk 5) ex_37), ev_chk_ok _ ek_37, by decide +kernel⟩
theorem ek_38 : ev_chk ev_MT "MeadowSigns$Planner" false (none) prog_6_method_18_code evc_38 = true := by decide +kernel
theorem ex_38 : evx_38 = evc_38.map ev_x := rfl
theorem em_38 : ev_P 38 (⟨"MeadowSigns$Planner", "layFirstOrder", "(I)V"⟩, prog_6_method_18_code, 6, none) := ⟨_, _, rfl, (show ev_tget 8 ev_XT 38 id = (6, evx_38) from rfl).trans (congrArg (Prod.mk 6) ex_38), ev_chk_ok _ ek_38, by decide +kernel⟩
theorem ek_39 : ev_chk ev_MT "MeadowSigns$Planner" false (some .int) prog_6_method_21_code evc_39 = true := by decide +kernel
theorem ex_39 : evx_39 = evc_39.map ev_x := rfl
theorem em_39 : ev_P 39 (⟨"MeadowSigns$Planner", "harmfulCells", "()I"⟩, prog_6_method_21_code, 3, some .int) := ⟨_, _, rfl, (show ev_tget 8 ev_XT 39 id = (3, evx_39) from rfl).trans (congrArg (Prod.mk 3) ex_39), ev_chk_ok _ ek_39, by decide +kernel⟩
theorem ek_40 : ev_chk ev_MT "MeadowSigns$Reader" true (none) prog_7_method_1_code evc_40 = true := by decide +kernel
theorem ex_40 : evx_40 = evc_40.map ev_x := rfl
theorem em_40 : ev_P 40 (⟨"MeadowSigns$Reader", "<init>", "(LMeadowSigns$Told;)V"⟩, prog_7_method_1_code, 2, none) := ⟨_, _, rfl, (show ev_tget 8 ev_XT 40 id = (2, evx_40) from rfl).trans (congrArg (Prod.mk 2) ex_40), ev_chk_ok _ ek_40, by decide +kernel⟩
theorem ek_41 : ev_chk ev_MT "MeadowSigns$Reader" false (none) prog_7_method_2_code evc_41 = true := by decide +kernel
theorem ex_41 : evx_41 = evc_41.map ev_x := rfl
theorem em_41 : ev_P 41 (⟨"MeadowSigns$Reader", "begin", "(LMeadowSigns$Told;LMeadowSigns$State;I)V"⟩, prog_7_method_2_code, 6, none) := ⟨_, _, rfl, (show ev_tget 8 ev_XT 41 id = (6, evx_41) from rfl).trans (congrArg (Prod.mk 6) ex_41), ev_chk_ok _ ek_41, by decide +kernel⟩
theorem ek_42 : ev_chk ev_MT "MeadowSigns$Reader" false (some .int) prog_7_method_4_code evc_42 = true := by decide +kernel
theorem ex_42 : evx_42 = evc_42.map ev_x := rfl
theorem em_42 : ev_P 42 (⟨"MeadowSigns$Reader", "read", "(I)I"⟩, prog_7_method_4_code, 4, some .int) := ⟨_, _, rfl, (show ev_tget 8 ev_XT 42 id = (4, evx_42) from rfl).trans (congrArg (Prod.mk 4) ex_42), ev_chk_ok _ ek_42, by decide +kernel⟩
theorem ek_43 : ev_chk ev_MT "MeadowSigns$Reader" false (some .int) prog_7_method_5_code evc_43 = true := by decide +kernel
theorem ex_43 : evx_43 = evc_43.map ev_x := rfl
theorem em_43 : ev_P 43 (⟨"MeadowSigns$Reader", "greatest", "()I"⟩, prog_7_method_5_code, 1, some .int) := ⟨_, _, rfl, (show ev_tget 8 ev_XT 43 id = (1, evx_43) from rfl).trans (congrArg (Prod.mk 1) ex_43), ev_chk_ok _ ek_43, by decide +kernel⟩
theorem ek_44 : ev_chk ev_MT "MeadowSigns$Reader" false (some .int) prog_7_method_6_code evc_44 = true := by decide +kernel
theorem ex_44 : evx_44 = evc_44.map ev_x := rfl
theorem em_44 : ev_P 44 (⟨"MeadowSigns$Reader", "answerAt", "(II)I"⟩, prog_7_method_6_code, 5, some .int) := ⟨_, _, rfl, (show ev_tget 8 ev_XT 44 id = (5, evx_44) from rfl).trans (congrArg (Prod.mk 5) ex_44), ev_chk_ok _ ek_44, by decide +kernel⟩
theorem ek_45 : ev_chk ev_MT "MeadowSigns$Reader" false (none) prog_7_method_7_code evc_45 = true := by decide +kernel
theorem ex_45 : evx_45 = evc_45.map ev_x := rfl
theorem em_45 : ev_P 45 (⟨"MeadowSigns$Reader", "settle", "(I)V"⟩, prog_7_method_7_code, 5, none) := ⟨_, _, rfl, (show ev_tget 8 ev_XT 45 id = (5, evx_45) from rfl).trans (congrArg (Prod.mk 5) ex_45), ev_chk_ok _ ek_45, by decide +kernel⟩
theorem ek_46 : ev_chk ev_MT "MeadowSigns$Reader" false (none) prog_7_method_9_code evc_46 = true := by decide +kernel
theorem ex_46 : evx_46 = evc_46.map ev_x := rfl
theorem em_46 : ev_P 46 (⟨"MeadowSigns$Reader", "choose", "(III)V"⟩, prog_7_method_9_code, 7, none) := ⟨_, _, rfl, (show ev_tget 8 ev_XT 46 id = (7, evx_46) from rfl).trans (congrArg (Prod.mk 7) ex_46), ev_chk_ok _ ek_46, by decide +kernel⟩
theorem ek_47 : ev_chk ev_MT "MeadowSigns$Reader" false (some .boolean) prog_7_method_10_code evc_47 = true := by decide +kernel
theorem ex_47 : evx_47 = evc_47.map ev_x := rfl
theorem em_47 : ev_P 47 (⟨"MeadowSigns$Reader", "follow", "()Z"⟩, prog_7_method_10_code, 5, some .boolean) := ⟨_, _, rfl, (show ev_tget 8 ev_XT 47 id = (5, evx_47) from rfl).trans (congrArg (Prod.mk 5) ex_47), ev_chk_ok _ ek_47, by decide +kernel⟩
theorem ek_48 : ev_chk ev_MT "MeadowSigns$Reader" false (some .boolean) prog_7_method_12_code evc_48 = true := by decide +kernel
theorem ex_48 : evx_48 = evc_48.map ev_x := rfl
theorem em_48 : ev_P 48 (⟨"MeadowSigns$Reader", "takesAway", "()Z"⟩, prog_7_method_12_code, 2, some .boolean) := ⟨_, _, rfl, (show ev_tget 8 ev_XT 48 id = (2, evx_48) from rfl).trans (congrArg (Prod.mk 2) ex_48), ev_chk_ok _ ek_48, by decide +kernel⟩
theorem ek_49 : ev_chk ev_MT "MeadowSigns$Reader" false (some .int) prog_7_method_14_code evc_49 = true := by decide +kernel
theorem ex_49 : evx_49 = evc_49.map ev_x := rfl
theorem em_49 : ev_P 49 (⟨"MeadowSigns$Reader", "signAt", "(I)I"⟩, prog_7_method_14_code, 3, some .int) := ⟨_, _, rfl, (show ev_tget 8 ev_XT 49 id = (3, evx_49) from rfl).trans (congrArg (Prod.mk 3) ex_49), ev_chk_ok _ ek_49, by decide +kernel⟩
theorem ek_50 : ev_chk ev_MT "MeadowSigns$State" true (none) prog_8_method_1_code evc_50 = true := by decide +kernel
theorem ex_50 : evx_50 = evc_50.map ev_x := rfl
theorem em_50 : ev_P 50 (⟨"MeadowSigns$State", "<init>", "()V"⟩, prog_8_method_1_code, 1, none) := ⟨_, _, rfl, (show ev_tget 8 ev_XT 50 id = (1, evx_50) from rfl).trans (congrArg (Prod.mk 1) ex_50), ev_chk_ok _ ek_50, by decide +kernel⟩
theorem ek_51 : ev_chk ev_MT "MeadowSigns$State" false (none) prog_8_method_2_code evc_51 = true := by decide +kernel
theorem ex_51 : evx_51 = evc_51.map ev_x := rfl
theorem em_51 : ev_P 51 (⟨"MeadowSigns$State", "begin", "(LMeadowSigns$Told;)V"⟩, prog_8_method_2_code, 3, none) := ⟨_, _, rfl, (show ev_tget 8 ev_XT 51 id = (3, evx_51) from rfl).trans (congrArg (Prod.mk 3) ex_51), ev_chk_ok _ ek_51, by decide +kernel⟩
theorem ek_52 : ev_chk ev_MT "MeadowSigns$State" false (none) prog_8_method_3_code evc_52 = true := by decide +kernel
theorem ex_52 : evx_52 = evc_52.map ev_x := rfl
theorem em_52 : ev_P 52 (⟨"MeadowSigns$State", "copy", "(LMeadowSigns$State;)V"⟩, prog_8_method_3_code, 2, none) := ⟨_, _, rfl, (show ev_tget 8 ev_XT 52 id = (2, evx_52) from rfl).trans (congrArg (Prod.mk 2) ex_52), ev_chk_ok _ ek_52, by decide +kernel⟩
theorem ek_53 : ev_chk ev_MT "MeadowSigns$State" false (none) prog_8_method_4_code evc_53 = true := by decide +kernel
theorem ex_53 : evx_53 = evc_53.map ev_x := rfl
theorem em_53 : ev_P 53 (⟨"MeadowSigns$State", "saveTo", "([II)V"⟩, prog_8_method_4_code, 4, none) := ⟨_, _, rfl, (show ev_tget 8 ev_XT 53 id = (4, evx_53) from rfl).trans (congrArg (Prod.mk 4) ex_53), ev_chk_ok _ ek_53, by decide +kernel⟩
theorem ek_54 : ev_chk ev_MT "MeadowSigns$State" false (none) prog_8_method_6_code evc_54 = true := by decide +kernel
theorem ex_54 : evx_54 = evc_54.map ev_x := rfl
theorem em_54 : ev_P 54 (⟨"MeadowSigns$State", "cut", "(I)V"⟩, prog_8_method_6_code, 2, none) := ⟨_, _, rfl, (show ev_tget 8 ev_XT 54 id = (2, evx_54) from rfl).trans (congrArg (Prod.mk 2) ex_54), ev_chk_ok _ ek_54, by decide +kernel⟩
theorem ek_55 : ev_chk ev_MT "MeadowSigns$State" false (none) prog_8_method_8_code evc_55 = true := by decide +kernel
theorem ex_55 : evx_55 = evc_55.map ev_x := rfl
theorem em_55 : ev_P 55 (⟨"MeadowSigns$State", "turnYear", "(LMeadowSigns$Told;)V"⟩, prog_8_method_8_code, 3, none) := ⟨_, _, rfl, (show ev_tget 8 ev_XT 55 id = (3, evx_55) from rfl).trans (congrArg (Prod.mk 3) ex_55), ev_chk_ok _ ek_55, by decide +kernel⟩
theorem ek_56 : ev_chk ev_MT "MeadowSigns$Tape" true (none) prog_9_method_1_code evc_56 = true := by decide +kernel
theorem ex_56 : evx_56 = evc_56.map ev_x := rfl
theorem em_56 : ev_P 56 (⟨"MeadowSigns$Tape", "<init>", "()V"⟩, prog_9_method_1_code, 1, none) := ⟨_, _, rfl, (show ev_tget 8 ev_XT 56 id = (1, evx_56) from rfl).trans (congrArg (Prod.mk 1) ex_56), ev_chk_ok _ ek_56, by decide +kernel⟩
theorem ek_57 : ev_chk ev_MT "MeadowSigns$Tape" false (some .boolean) prog_9_method_2_code evc_57 = true := by decide +kernel
theorem ex_57 : evx_57 = evc_57.map ev_x := rfl
theorem em_57 : ev_P 57 (⟨"MeadowSigns$Tape", "hasRoom", "(I)Z"⟩, prog_9_method_2_code, 2, some .boolean) := ⟨_, _, rfl, (show ev_tget 8 ev_XT 57 id = (2, evx_57) from rfl).trans (congrArg (Prod.mk 2) ex_57), ev_chk_ok _ ek_57, by decide +kernel⟩
theorem ek_58 : ev_chk ev_MT "MeadowSigns$Tape" false (none) prog_9_method_3_code evc_58 = true := by decide +kernel
theorem ex_58 : evx_58 = evc_58.map ev_x := rfl
theorem em_58 : ev_P 58 (⟨"MeadowSigns$Tape", "putFour", "(I)V"⟩, prog_9_method_3_code, 3, none) := ⟨_, _, rfl, (show ev_tget 8 ev_XT 58 id = (3, evx_58) from rfl).trans (congrArg (Prod.mk 3) ex_58), ev_chk_ok _ ek_58, by decide +kernel⟩
theorem ek_59 : ev_chk ev_MT "MeadowSigns$Tape" false (some .boolean) prog_9_method_4_code evc_59 = true := by decide +kernel
theorem ex_59 : evx_59 = evc_59.map ev_x := rfl
theorem em_59 : ev_P 59 (⟨"MeadowSigns$Tape", "cutTo", "(I)Z"⟩, prog_9_method_4_code, 2, some .boolean) := ⟨_, _, rfl, (show ev_tget 8 ev_XT 59 id = (2, evx_59) from rfl).trans (congrArg (Prod.mk 2) ex_59), ev_chk_ok _ ek_59, by decide +kernel⟩
theorem ek_60 : ev_chk ev_MT "MeadowSigns$Tape" false (none) prog_9_method_5_code evc_60 = true := by decide +kernel
theorem ex_60 : evx_60 = evc_60.map ev_x := rfl
theorem em_60 : ev_P 60 (⟨"MeadowSigns$Tape", "begin", "()V"⟩, prog_9_method_5_code, 1, none) := ⟨_, _, rfl, (show ev_tget 8 ev_XT 60 id = (1, evx_60) from rfl).trans (congrArg (Prod.mk 1) ex_60), ev_chk_ok _ ek_60, by decide +kernel⟩
theorem ek_61 : ev_chk ev_MT "MeadowSigns$Tape" false (none) prog_9_method_6_code evc_61 = true := by decide +kernel
theorem ex_61 : evx_61 = evc_61.map ev_x := rfl
theorem em_61 : ev_P 61 (⟨"MeadowSigns$Tape", "advance", "()V"⟩, prog_9_method_6_code, 1, none) := ⟨_, _, rfl, (show ev_tget 8 ev_XT 61 id = (1, evx_61) from rfl).trans (congrArg (Prod.mk 1) ex_61), ev_chk_ok _ ek_61, by decide +kernel⟩
theorem ek_62 : ev_chk ev_MT "MeadowSigns$Told" true (none) prog_10_method_1_code evc_62 = true := by decide +kernel
theorem ex_62 : evx_62 = evc_62.map ev_x := rfl
theorem em_62 : ev_P 62 (⟨"MeadowSigns$Told", "<init>", "()V"⟩, prog_10_method_1_code, 1, none) := ⟨_, _, rfl, (show ev_tget 8 ev_XT 62 id = (1, evx_62) from rfl).trans (congrArg (Prod.mk 1) ex_62), ev_chk_ok _ ek_62, by decide +kernel⟩
theorem ek_63 : ev_chk ev_MT "MeadowSigns$Told" false (none) prog_10_method_2_code evc_63 = true := by decide +kernel
theorem ex_63 : evx_63 = evc_63.map ev_x := rfl
theorem em_63 : ev_P 63 (⟨"MeadowSigns$Told", "clear", "()V"⟩, prog_10_method_2_code, 2, none) := ⟨_, _, rfl, (show ev_tget 8 ev_XT 63 id = (2, evx_63) from rfl).trans (congrArg (Prod.mk 2) ex_63), ev_chk_ok _ ek_63, by decide +kernel⟩
theorem ek_64 : ev_chk ev_MT "MeadowSigns" true (none) prog_1_method_1_code evc_64 = true := by decide +kernel
theorem ex_64 : evx_64 = evc_64.map ev_x := rfl
theorem em_64 : ev_P 64 (⟨"MeadowSigns", "<init>", "()V"⟩, prog_1_method_1_code, 1, none) := ⟨_, _, rfl, (show ev_tget 8 ev_XT 64 id = (1, evx_64) from rfl).trans (congrArg (Prod.mk 1) ex_64), ev_chk_ok _ ek_64, by decide +kernel⟩
theorem ek_65 : ev_chk ev_MT "MeadowSigns" false (some .int) prog_1_method_2_code evc_65 = true := by decide +kernel
theorem ex_65 : evx_65 = evc_65.map ev_x := rfl
theorem em_65 : ev_P 65 (⟨"MeadowSigns", "feed", "(IIIII)I"⟩, prog_1_method_2_code, 7, some .int) := ⟨_, _, rfl, (show ev_tget 8 ev_XT 65 id = (7, evx_65) from rfl).trans (congrArg (Prod.mk 7) ex_65), ev_chk_ok _ ek_65, by decide +kernel⟩
theorem ek_66 : ev_chk ev_MT "MeadowSigns" false (some .int) prog_1_method_3_code evc_66 = true := by decide +kernel
theorem ex_66 : evx_66 = evc_66.map ev_x := rfl
theorem em_66 : ev_P 66 (⟨"MeadowSigns", "end", "(I)I"⟩, prog_1_method_3_code, 2, some .int) := ⟨_, _, rfl, (show ev_tget 8 ev_XT 66 id = (2, evx_66) from rfl).trans (congrArg (Prod.mk 2) ex_66), ev_chk_ok _ ek_66, by decide +kernel⟩
theorem ek_67 : ev_chk ev_MT "MeadowSigns" false (some .int) prog_1_method_4_code evc_67 = true := by decide +kernel
theorem ex_67 : evx_67 = evc_67.map ev_x := rfl
theorem em_67 : ev_P 67 (⟨"MeadowSigns", "meadow", "()I"⟩, prog_1_method_4_code, 2, some .int) := ⟨_, _, rfl, (show ev_tget 8 ev_XT 67 id = (2, evx_67) from rfl).trans (congrArg (Prod.mk 2) ex_67), ev_chk_ok _ ek_67, by decide +kernel⟩
theorem ek_68 : ev_chk ev_MT "MeadowSigns" false (some .int) prog_1_method_5_code evc_68 = true := by decide +kernel
theorem ex_68 : evx_68 = evc_68.map ev_x := rfl
theorem em_68 : ev_P 68 (⟨"MeadowSigns", "fault", "(I)I"⟩, prog_1_method_5_code, 2, some .int) := ⟨_, _, rfl, (show ev_tget 8 ev_XT 68 id = (2, evx_68) from rfl).trans (congrArg (Prod.mk 2) ex_68), ev_chk_ok _ ek_68, by decide +kernel⟩
theorem ek_69 : ev_chk ev_MT "MeadowSigns" false (some .int) prog_1_method_6_code evc_69 = true := by decide +kernel
theorem ex_69 : evx_69 = evc_69.map ev_x := rfl
theorem em_69 : ev_P 69 (⟨"MeadowSigns", "thing", "(I)I"⟩, prog_1_method_6_code, 2, some .int) := ⟨_, _, rfl, (show ev_tget 8 ev_XT 69 id = (2, evx_69) from rfl).trans (congrArg (Prod.mk 2) ex_69), ev_chk_ok _ ek_69, by decide +kernel⟩
theorem ek_70 : ev_chk ev_MT "MeadowSigns" false (some .int) prog_1_method_7_code evc_70 = true := by decide +kernel
theorem ex_70 : evx_70 = evc_70.map ev_x := rfl
theorem em_70 : ev_P 70 (⟨"MeadowSigns", "glyph", "(II)I"⟩, prog_1_method_7_code, 3, some .int) := ⟨_, _, rfl, (show ev_tget 8 ev_XT 70 id = (3, evx_70) from rfl).trans (congrArg (Prod.mk 3) ex_70), ev_chk_ok _ ek_70, by decide +kernel⟩
theorem ek_71 : ev_chk ev_MT "MeadowSigns" false (some .int) prog_1_method_8_code evc_71 = true := by decide +kernel
theorem ex_71 : evx_71 = evc_71.map ev_x := rfl
theorem em_71 : ev_P 71 (⟨"MeadowSigns", "plot", "(II)I"⟩, prog_1_method_8_code, 4, some .int) := ⟨_, _, rfl, (show ev_tget 8 ev_XT 71 id = (4, evx_71) from rfl).trans (congrArg (Prod.mk 4) ex_71), ev_chk_ok _ ek_71, by decide +kernel⟩
theorem ek_72 : ev_chk ev_MT "MeadowSigns" false (some .int) prog_1_method_9_code evc_72 = true := by decide +kernel
theorem ex_72 : evx_72 = evc_72.map ev_x := rfl
theorem em_72 : ev_P 72 (⟨"MeadowSigns", "mow", "(I)I"⟩, prog_1_method_9_code, 2, some .int) := ⟨_, _, rfl, (show ev_tget 8 ev_XT 72 id = (2, evx_72) from rfl).trans (congrArg (Prod.mk 2) ex_72), ev_chk_ok _ ek_72, by decide +kernel⟩
theorem ek_73 : ev_chk ev_MT "MeadowSigns" false (some .int) prog_1_method_10_code evc_73 = true := by decide +kernel
theorem ex_73 : evx_73 = evc_73.map ev_x := rfl
theorem em_73 : ev_P 73 (⟨"MeadowSigns", "sow", "(I)I"⟩, prog_1_method_10_code, 2, some .int) := ⟨_, _, rfl, (show ev_tget 8 ev_XT 73 id = (2, evx_73) from rfl).trans (congrArg (Prod.mk 2) ex_73), ev_chk_ok _ ek_73, by decide +kernel⟩
theorem ek_74 : ev_chk ev_MT "MeadowSigns" false (some .int) prog_1_method_11_code evc_74 = true := by decide +kernel
theorem ex_74 : evx_74 = evc_74.map ev_x := rfl
theorem em_74 : ev_P 74 (⟨"MeadowSigns", "year", "()I"⟩, prog_1_method_11_code, 2, some .int) := ⟨_, _, rfl, (show ev_tget 8 ev_XT 74 id = (2, evx_74) from rfl).trans (congrArg (Prod.mk 2) ex_74), ev_chk_ok _ ek_74, by decide +kernel⟩
theorem ek_75 : ev_chk ev_MT "MeadowSigns" false (some .boolean) prog_1_method_12_code evc_75 = true := by decide +kernel
theorem ex_75 : evx_75 = evc_75.map ev_x := rfl
theorem em_75 : ev_P 75 (⟨"MeadowSigns", "undo", "()Z"⟩, prog_1_method_12_code, 1, some .boolean) := ⟨_, _, rfl, (show ev_tget 8 ev_XT 75 id = (1, evx_75) from rfl).trans (congrArg (Prod.mk 1) ex_75), ev_chk_ok _ ek_75, by decide +kernel⟩
theorem ek_76 : ev_chk ev_MT "MeadowSigns" false (some .boolean) prog_1_method_13_code evc_76 = true := by decide +kernel
theorem ex_76 : evx_76 = evc_76.map ev_x := rfl
theorem em_76 : ev_P 76 (⟨"MeadowSigns", "redo", "()Z"⟩, prog_1_method_13_code, 1, some .boolean) := ⟨_, _, rfl, (show ev_tget 8 ev_XT 76 id = (1, evx_76) from rfl).trans (congrArg (Prod.mk 1) ex_76), ev_chk_ok _ ek_76, by decide +kernel⟩
theorem ek_77 : ev_chk ev_MT "MeadowSigns" false (some .int) prog_1_method_14_code evc_77 = true := by decide +kernel
theorem ex_77 : evx_77 = evc_77.map ev_x := rfl
theorem em_77 : ev_P 77 (⟨"MeadowSigns", "readings", "()I"⟩, prog_1_method_14_code, 1, some .int) := ⟨_, _, rfl, (show ev_tget 8 ev_XT 77 id = (1, evx_77) from rfl).trans (congrArg (Prod.mk 1) ex_77), ev_chk_ok _ ek_77, by decide +kernel⟩
theorem ek_78 : ev_chk ev_MT "MeadowSigns" false (some .int) prog_1_method_15_code evc_78 = true := by decide +kernel
theorem ex_78 : evx_78 = evc_78.map ev_x := rfl
theorem em_78 : ev_P 78 (⟨"MeadowSigns", "taken", "()I"⟩, prog_1_method_15_code, 2, some .int) := ⟨_, _, rfl, (show ev_tget 8 ev_XT 78 id = (2, evx_78) from rfl).trans (congrArg (Prod.mk 2) ex_78), ev_chk_ok _ ek_78, by decide +kernel⟩
theorem ek_79 : ev_chk ev_MT "MeadowSigns" false (some .int) prog_1_method_16_code evc_79 = true := by decide +kernel
theorem ex_79 : evx_79 = evc_79.map ev_x := rfl
theorem em_79 : ev_P 79 (⟨"MeadowSigns", "weight", "()I"⟩, prog_1_method_16_code, 1, some .int) := ⟨_, _, rfl, (show ev_tget 8 ev_XT 79 id = (1, evx_79) from rfl).trans (congrArg (Prod.mk 1) ex_79), ev_chk_ok _ ek_79, by decide +kernel⟩
theorem ek_80 : ev_chk ev_MT "MeadowSigns" false (some .int) prog_1_method_17_code evc_80 = true := by decide +kernel
theorem ex_80 : evx_80 = evc_80.map ev_x := rfl
theorem em_80 : ev_P 80 (⟨"MeadowSigns", "does", "(I)I"⟩, prog_1_method_17_code, 2, some .int) := ⟨_, _, rfl, (show ev_tget 8 ev_XT 80 id = (2, evx_80) from rfl).trans (congrArg (Prod.mk 2) ex_80), ev_chk_ok _ ek_80, by decide +kernel⟩
theorem ek_81 : ev_chk ev_MT "MeadowSigns" false (some .int) prog_1_method_18_code evc_81 = true := by decide +kernel
theorem ex_81 : evx_81 = evc_81.map ev_x := rfl
theorem em_81 : ev_P 81 (⟨"MeadowSigns", "will", "(II)I"⟩, prog_1_method_18_code, 3, some .int) := ⟨_, _, rfl, (show ev_tget 8 ev_XT 81 id = (3, evx_81) from rfl).trans (congrArg (Prod.mk 3) ex_81), ev_chk_ok _ ek_81, by decide +kernel⟩
theorem ek_82 : ev_chk ev_MT "MeadowSigns" false (some .int) prog_1_method_19_code evc_82 = true := by decide +kernel
theorem ex_82 : evx_82 = evc_82.map ev_x := rfl
theorem em_82 : ev_P 82 (⟨"MeadowSigns", "field", "(I)I"⟩, prog_1_method_19_code, 2, some .int) := ⟨_, _, rfl, (show ev_tget 8 ev_XT 82 id = (2, evx_82) from rfl).trans (congrArg (Prod.mk 2) ex_82), ev_chk_ok _ ek_82, by decide +kernel⟩
theorem ek_83 : ev_chk ev_MT "MeadowSigns" false (some .int) prog_1_method_20_code evc_83 = true := by decide +kernel
theorem ex_83 : evx_83 = evc_83.map ev_x := rfl
theorem em_83 : ev_P 83 (⟨"MeadowSigns", "harm", "()I"⟩, prog_1_method_20_code, 1, some .int) := ⟨_, _, rfl, (show ev_tget 8 ev_XT 83 id = (1, evx_83) from rfl).trans (congrArg (Prod.mk 1) ex_83), ev_chk_ok _ ek_83, by decide +kernel⟩
theorem ek_84 : ev_chk ev_MT "MeadowSigns" false (some .int) prog_1_method_21_code evc_84 = true := by decide +kernel
theorem ex_84 : evx_84 = evc_84.map ev_x := rfl
theorem em_84 : ev_P 84 (⟨"MeadowSigns", "turn", "(II)I"⟩, prog_1_method_21_code, 3, some .int) := ⟨_, _, rfl, (show ev_tget 8 ev_XT 84 id = (3, evx_84) from rfl).trans (congrArg (Prod.mk 3) ex_84), ev_chk_ok _ ek_84, by decide +kernel⟩
theorem ek_85 : ev_chk ev_MT "MeadowSigns" false (some .int) prog_1_method_22_code evc_85 = true := by decide +kernel
theorem ex_85 : evx_85 = evc_85.map ev_x := rfl
theorem em_85 : ev_P 85 (⟨"MeadowSigns", "plain", "()I"⟩, prog_1_method_22_code, 1, some .int) := ⟨_, _, rfl, (show ev_tget 8 ev_XT 85 id = (1, evx_85) from rfl).trans (congrArg (Prod.mk 1) ex_85), ev_chk_ok _ ek_85, by decide +kernel⟩
theorem ek_86 : ev_chk ev_MT "MeadowSigns" false (some .int) prog_1_method_23_code evc_86 = true := by decide +kernel
theorem ex_86 : evx_86 = evc_86.map ev_x := rfl
theorem em_86 : ev_P 86 (⟨"MeadowSigns", "orders", "(I)I"⟩, prog_1_method_23_code, 2, some .int) := ⟨_, _, rfl, (show ev_tget 8 ev_XT 86 id = (2, evx_86) from rfl).trans (congrArg (Prod.mk 2) ex_86), ev_chk_ok _ ek_86, by decide +kernel⟩
theorem ek_87 : ev_chk ev_MT "MeadowSigns" false (some .int) prog_1_method_24_code evc_87 = true := by decide +kernel
theorem ex_87 : evx_87 = evc_87.map ev_x := rfl
theorem em_87 : ev_P 87 (⟨"MeadowSigns", "write", "(III)I"⟩, prog_1_method_24_code, 6, some .int) := ⟨_, _, rfl, (show ev_tget 8 ev_XT 87 id = (6, evx_87) from rfl).trans (congrArg (Prod.mk 6) ex_87), ev_chk_ok _ ek_87, by decide +kernel⟩
theorem ek_88 : ev_chk ev_MT "MeadowSigns" false (some .int) prog_1_method_25_code evc_88 = true := by decide +kernel
theorem ex_88 : evx_88 = evc_88.map ev_x := rfl
theorem em_88 : ev_P 88 (⟨"MeadowSigns", "watch", "()I"⟩, prog_1_method_25_code, 1, some .int) := ⟨_, _, rfl, (show ev_tget 8 ev_XT 88 id = (1, evx_88) from rfl).trans (congrArg (Prod.mk 1) ex_88), ev_chk_ok _ ek_88, by decide +kernel⟩
theorem ek_89 : ev_chk ev_MT "MeadowSigns" false (some .int) prog_1_method_26_code evc_89 = true := by decide +kernel
theorem ex_89 : evx_89 = evc_89.map ev_x := rfl
theorem em_89 : ev_P 89 (⟨"MeadowSigns", "cows", "(II)I"⟩, prog_1_method_26_code, 3, some .int) := ⟨_, _, rfl, (show ev_tget 8 ev_XT 89 id = (3, evx_89) from rfl).trans (congrArg (Prod.mk 3) ex_89), ev_chk_ok _ ek_89, by decide +kernel⟩
theorem ek_90 : ev_chk ev_MT "MeadowSigns" false (some .int) prog_1_method_27_code evc_90 = true := by decide +kernel
theorem ex_90 : evx_90 = evc_90.map ev_x := rfl
theorem em_90 : ev_P 90 (⟨"MeadowSigns", "duel", "(IIII)I"⟩, prog_1_method_27_code, 6, some .int) := ⟨_, _, rfl, (show ev_tget 8 ev_XT 90 id = (6, evx_90) from rfl).trans (congrArg (Prod.mk 6) ex_90), ev_chk_ok _ ek_90, by decide +kernel⟩
theorem ek_91 : ev_chk ev_MT "MeadowSigns" false (some .int) prog_1_method_28_code evc_91 = true := by decide +kernel
theorem ex_91 : evx_91 = evc_91.map ev_x := rfl
theorem em_91 : ev_P 91 (⟨"MeadowSigns", "lies", "(I)I"⟩, prog_1_method_28_code, 2, some .int) := ⟨_, _, rfl, (show ev_tget 8 ev_XT 91 id = (2, evx_91) from rfl).trans (congrArg (Prod.mk 2) ex_91), ev_chk_ok _ ek_91, by decide +kernel⟩
theorem ek_92 : ev_chk ev_MT "MeadowSigns" false (some .int) prog_1_method_29_code evc_92 = true := by decide +kernel
theorem ex_92 : evx_92 = evc_92.map ev_x := rfl
theorem em_92 : ev_P 92 (⟨"MeadowSigns", "heard", "(IIIZ)I"⟩, prog_1_method_29_code, 5, some .int) := ⟨_, _, rfl, (show ev_tget 8 ev_XT 92 id = (5, evx_92) from rfl).trans (congrArg (Prod.mk 5) ex_92), ev_chk_ok _ ek_92, by decide +kernel⟩
theorem ek_93 : ev_chk ev_MT "MeadowSigns" false (some .boolean) prog_1_method_30_code evc_93 = true := by decide +kernel
theorem ex_93 : evx_93 = evc_93.map ev_x := rfl
theorem em_93 : ev_P 93 (⟨"MeadowSigns", "untell", "(I)Z"⟩, prog_1_method_30_code, 2, some .boolean) := ⟨_, _, rfl, (show ev_tget 8 ev_XT 93 id = (2, evx_93) from rfl).trans (congrArg (Prod.mk 2) ex_93), ev_chk_ok _ ek_93, by decide +kernel⟩
theorem ek_94 : ev_chk ev_MT "MeadowSigns" false (some .int) prog_1_method_31_code evc_94 = true := by decide +kernel
theorem ex_94 : evx_94 = evc_94.map ev_x := rfl
theorem em_94 : ev_P 94 (⟨"MeadowSigns", "later", "(I)I"⟩, prog_1_method_31_code, 2, some .int) := ⟨_, _, rfl, (show ev_tget 8 ev_XT 94 id = (2, evx_94) from rfl).trans (congrArg (Prod.mk 2) ex_94), ev_chk_ok _ ek_94, by decide +kernel⟩
theorem ek_95 : ev_chk ev_MT "MeadowSigns" false (some .int) prog_1_method_32_code evc_95 = true := by decide +kernel
theorem ex_95 : evx_95 = evc_95.map ev_x := rfl
theorem em_95 : ev_P 95 (⟨"MeadowSigns", "fit", "(I)I"⟩, prog_1_method_32_code, 2, some .int) := ⟨_, _, rfl, (show ev_tget 8 ev_XT 95 id = (2, evx_95) from rfl).trans (congrArg (Prod.mk 2) ex_95), ev_chk_ok _ ek_95, by decide +kernel⟩
theorem ek_96 : ev_chk ev_MT "MeadowSigns" false (some .int) prog_1_method_33_code evc_96 = true := by decide +kernel
theorem ex_96 : evx_96 = evc_96.map ev_x := rfl
theorem em_96 : ev_P 96 (⟨"MeadowSigns", "sure", "(III)I"⟩, prog_1_method_33_code, 4, some .int) := ⟨_, _, rfl, (show ev_tget 8 ev_XT 96 id = (4, evx_96) from rfl).trans (congrArg (Prod.mk 4) ex_96), ev_chk_ok _ ek_96, by decide +kernel⟩
theorem ek_97 : ev_chk ev_MT "MeadowSigns" false (some .int) prog_1_method_34_code evc_97 = true := by decide +kernel
theorem ex_97 : evx_97 = evc_97.map ev_x := rfl
theorem em_97 : ev_P 97 (⟨"MeadowSigns", "ask", "(II)I"⟩, prog_1_method_34_code, 3, some .int) := ⟨_, _, rfl, (show ev_tget 8 ev_XT 97 id = (3, evx_97) from rfl).trans (congrArg (Prod.mk 3) ex_97), ev_chk_ok _ ek_97, by decide +kernel⟩
theorem ek_98 : ev_chk ev_MT "MeadowSigns" false (some .int) prog_1_method_35_code evc_98 = true := by decide +kernel
theorem ex_98 : evx_98 = evc_98.map ev_x := rfl
theorem em_98 : ev_P 98 (⟨"MeadowSigns", "image", "(I)I"⟩, prog_1_method_35_code, 2, some .int) := ⟨_, _, rfl, (show ev_tget 8 ev_XT 98 id = (2, evx_98) from rfl).trans (congrArg (Prod.mk 2) ex_98), ev_chk_ok _ ek_98, by decide +kernel⟩
theorem ek_99 : ev_chk ev_MT "MeadowSigns" false (some .int) prog_1_method_36_code evc_99 = true := by decide +kernel
theorem ex_99 : evx_99 = evc_99.map ev_x := rfl
theorem em_99 : ev_P 99 (⟨"MeadowSigns", "back", "(I)I"⟩, prog_1_method_36_code, 2, some .int) := ⟨_, _, rfl, (show ev_tget 8 ev_XT 99 id = (2, evx_99) from rfl).trans (congrArg (Prod.mk 2) ex_99), ev_chk_ok _ ek_99, by decide +kernel⟩
theorem ek_100 : ev_chk ev_MT "MeadowSigns" false (some .int) prog_1_method_37_code evc_100 = true := by decide +kernel
theorem ex_100 : evx_100 = evc_100.map ev_x := rfl
theorem em_100 : ev_P 100 (⟨"MeadowSigns", "about", "(I)I"⟩, prog_1_method_37_code, 2, some .int) := ⟨_, _, rfl, (show ev_tget 8 ev_XT 100 id = (2, evx_100) from rfl).trans (congrArg (Prod.mk 2) ex_100), ev_chk_ok _ ek_100, by decide +kernel⟩
theorem ek_101 : ev_chk ev_MT "MeadowSigns" false (some .boolean) prog_1_method_38_code evc_101 = true := by decide +kernel
theorem ex_101 : evx_101 = evc_101.map ev_x := rfl
theorem em_101 : ev_P 101 (⟨"MeadowSigns", "isIn", "(II)Z"⟩, prog_1_method_38_code, 2, some .boolean) := ⟨_, _, rfl, (show ev_tget 8 ev_XT 101 id = (2, evx_101) from rfl).trans (congrArg (Prod.mk 2) ex_101), ev_chk_ok _ ek_101, by decide +kernel⟩
theorem ek_102 : ev_chk ev_MT "MeadowSigns" false (some .boolean) prog_1_method_40_code evc_102 = true := by decide +kernel
theorem ex_102 : evx_102 = evc_102.map ev_x := rfl
theorem em_102 : ev_P 102 (⟨"MeadowSigns", "isThing", "(I)Z"⟩, prog_1_method_40_code, 2, some .boolean) := ⟨_, _, rfl, (show ev_tget 8 ev_XT 102 id = (2, evx_102) from rfl).trans (congrArg (Prod.mk 2) ex_102), ev_chk_ok _ ek_102, by decide +kernel⟩
theorem ek_103 : ev_chk ev_MT "MeadowSigns" false (some .boolean) prog_1_method_41_code evc_103 = true := by decide +kernel
theorem ex_103 : evx_103 = evc_103.map ev_x := rfl
theorem em_103 : ev_P 103 (⟨"MeadowSigns", "isSign", "(I)Z"⟩, prog_1_method_41_code, 2, some .boolean) := ⟨_, _, rfl, (show ev_tget 8 ev_XT 103 id = (2, evx_103) from rfl).trans (congrArg (Prod.mk 2) ex_103), ev_chk_ok _ ek_103, by decide +kernel⟩
theorem ek_104 : ev_chk ev_MT "MeadowSigns" false (some .boolean) prog_1_method_42_code evc_104 = true := by decide +kernel
theorem ex_104 : evx_104 = evc_104.map ev_x := rfl
theorem em_104 : ev_P 104 (⟨"MeadowSigns", "isCell", "(I)Z"⟩, prog_1_method_42_code, 2, some .boolean) := ⟨_, _, rfl, (show ev_tget 8 ev_XT 104 id = (2, evx_104) from rfl).trans (congrArg (Prod.mk 2) ex_104), ev_chk_ok _ ek_104, by decide +kernel⟩
theorem ek_105 : ev_chk ev_MT "MeadowSigns" false (some .int) prog_1_method_43_code evc_105 = true := by decide +kernel
theorem ex_105 : evx_105 = evc_105.map ev_x := rfl
theorem em_105 : ev_P 105 (⟨"MeadowSigns", "openCells", "()I"⟩, prog_1_method_43_code, 1, some .int) := ⟨_, _, rfl, (show ev_tget 8 ev_XT 105 id = (1, evx_105) from rfl).trans (congrArg (Prod.mk 1) ex_105), ev_chk_ok _ ek_105, by decide +kernel⟩
theorem ek_106 : ev_chk ev_MT "MeadowSigns" false (some .boolean) prog_1_method_44_code evc_106 = true := by decide +kernel
theorem ex_106 : evx_106 = evc_106.map ev_x := rfl
theorem em_106 : ev_P 106 (⟨"MeadowSigns", "isOpen", "(I)Z"⟩, prog_1_method_44_code, 2, some .boolean) := ⟨_, _, rfl, (show ev_tget 8 ev_XT 106 id = (2, evx_106) from rfl).trans (congrArg (Prod.mk 2) ex_106), ev_chk_ok _ ek_106, by decide +kernel⟩
theorem ek_107 : ev_chk ev_MT "MeadowSigns" false (some .int) prog_1_method_45_code evc_107 = true := by decide +kernel
theorem ex_107 : evx_107 = evc_107.map ev_x := rfl
theorem em_107 : ev_P 107 (⟨"MeadowSigns", "readAll", "(LMeadowSigns$State;)I"⟩, prog_1_method_45_code, 3, some .int) := ⟨_, _, rfl, (show ev_tget 8 ev_XT 107 id = (3, evx_107) from rfl).trans (congrArg (Prod.mk 3) ex_107), ev_chk_ok _ ek_107, by decide +kernel⟩
theorem ek_108 : ev_chk ev_MT "MeadowSigns" false (some .boolean) prog_1_method_46_code evc_108 = true := by decide +kernel
theorem ex_108 : evx_108 = evc_108.map ev_x := rfl
theorem em_108 : ev_P 108 (⟨"MeadowSigns", "takeNow", "()Z"⟩, prog_1_method_46_code, 1, some .boolean) := ⟨_, _, rfl, (show ev_tget 8 ev_XT 108 id = (1, evx_108) from rfl).trans (congrArg (Prod.mk 1) ex_108), ev_chk_ok _ ek_108, by decide +kernel⟩
theorem ek_109 : ev_chk ev_MT "MeadowSigns" false (some .int) prog_1_method_47_code evc_109 = true := by decide +kernel
theorem ex_109 : evx_109 = evc_109.map ev_x := rfl
theorem em_109 : ev_P 109 (⟨"MeadowSigns", "passYear", "(LMeadowSigns$State;)I"⟩, prog_1_method_47_code, 5, some .int) := ⟨_, _, rfl, (show ev_tget 8 ev_XT 109 id = (5, evx_109) from rfl).trans (congrArg (Prod.mk 5) ex_109), ev_chk_ok _ ek_109, by decide +kernel⟩
theorem ek_110 : ev_chk ev_MT "MeadowSigns" false (some .boolean) prog_1_method_48_code evc_110 = true := by decide +kernel
theorem ex_110 : evx_110 = evc_110.map ev_x := rfl
theorem em_110 : ev_P 110 (⟨"MeadowSigns", "goAhead", "(I)Z"⟩, prog_1_method_48_code, 3, some .boolean) := ⟨_, _, rfl, (show ev_tget 8 ev_XT 110 id = (3, evx_110) from rfl).trans (congrArg (Prod.mk 3) ex_110), ev_chk_ok _ ek_110, by decide +kernel⟩
theorem ek_111 : ev_chk ev_MT "MeadowSignsModel" true (none) prog_12_method_1_code evc_111 = true := by decide +kernel
theorem ex_111 : evx_111 = evc_111.map ev_x := rfl
theorem em_111 : ev_P 111 (⟨"MeadowSignsModel", "<init>", "()V"⟩, prog_12_method_1_code, 1, none) := ⟨_, _, rfl, (show ev_tget 8 ev_XT 111 id = (1, evx_111) from rfl).trans (congrArg (Prod.mk 1) ex_111), ev_chk_ok _ ek_111, by decide +kernel⟩
theorem ek_112 : ev_chk ev_MT "MeadowSignsModel" false (some .int) prog_12_method_2_code evc_112 = true := by decide +kernel
theorem ex_112 : evx_112 = evc_112.map ev_x := rfl
theorem em_112 : ev_P 112 (⟨"MeadowSignsModel", "sign", "(I)I"⟩, prog_12_method_2_code, 2, some .int) := ⟨_, _, rfl, (show ev_tget 8 ev_XT 112 id = (2, evx_112) from rfl).trans (congrArg (Prod.mk 2) ex_112), ev_chk_ok _ ek_112, by decide +kernel⟩
theorem ek_113 : ev_chk ev_MT "MeadowSignsModel" false (some .boolean) prog_12_method_6_code evc_113 = true := by decide +kernel
theorem ex_113 : evx_113 = evc_113.map ev_x := rfl
theorem em_113 : ev_P 113 (⟨"MeadowSignsModel", "isGood", "()Z"⟩, prog_12_method_6_code, 1, some .boolean) := ⟨_, _, rfl, (show ev_tget 8 ev_XT 113 id = (1, evx_113) from rfl).trans (congrArg (Prod.mk 1) ex_113), ev_chk_ok _ ek_113, by decide +kernel⟩
theorem ek_114 : ev_chk ev_MT "MeadowSignsModel" false (none) prog_12_method_9_code evc_114 = true := by decide +kernel
theorem ex_114 : evx_114 = evc_114.map ev_x := rfl
theorem em_114 : ev_P 114 (⟨"MeadowSignsModel", "goOn", "()V"⟩, prog_12_method_9_code, 3, none) := ⟨_, _, rfl, (show ev_tget 8 ev_XT 114 id = (3, evx_114) from rfl).trans (congrArg (Prod.mk 3) ex_114), ev_chk_ok _ ek_114, by decide +kernel⟩
theorem ek_115 : ev_chk ev_MT "MeadowSignsModel" false (none) prog_12_method_17_code evc_115 = true := by decide +kernel
theorem ex_115 : evx_115 = evc_115.map ev_x := rfl
theorem em_115 : ev_P 115 (⟨"MeadowSignsModel", "clearBank", "()V"⟩, prog_12_method_17_code, 2, none) := ⟨_, _, rfl, (show ev_tget 8 ev_XT 115 id = (2, evx_115) from rfl).trans (congrArg (Prod.mk 2) ex_115), ev_chk_ok _ ek_115, by decide +kernel⟩
theorem ek_116 : ev_chk ev_MT "MeadowSignsModel" false (some .int) prog_12_method_18_code evc_116 = true := by decide +kernel
theorem ex_116 : evx_116 = evc_116.map ev_x := rfl
theorem em_116 : ev_P 116 (⟨"MeadowSignsModel", "meadow", "()I"⟩, prog_12_method_18_code, 2, some .int) := ⟨_, _, rfl, (show ev_tget 8 ev_XT 116 id = (2, evx_116) from rfl).trans (congrArg (Prod.mk 2) ex_116), ev_chk_ok _ ek_116, by decide +kernel⟩
theorem ek_117 : ev_chk ev_MT "MeadowSignsModel" false (some .int) prog_12_method_44_code evc_117 = true := by decide +kernel
theorem ex_117 : evx_117 = evc_117.map ev_x := rfl
theorem em_117 : ev_P 117 (⟨"MeadowSignsModel", "fault", "(I)I"⟩, prog_12_method_44_code, 2, some .int) := ⟨_, _, rfl, (show ev_tget 8 ev_XT 117 id = (2, evx_117) from rfl).trans (congrArg (Prod.mk 2) ex_117), ev_chk_ok _ ek_117, by decide +kernel⟩
theorem ek_118 : ev_chk ev_MT "MeadowSignsModel" false (some .boolean) prog_12_method_45_code evc_118 = true := by decide +kernel
theorem ex_118 : evx_118 = evc_118.map ev_x := rfl
theorem em_118 : ev_P 118 (⟨"MeadowSignsModel", "isIn", "(III)Z"⟩, prog_12_method_45_code, 3, some .boolean) := ⟨_, _, rfl, (show ev_tget 8 ev_XT 118 id = (3, evx_118) from rfl).trans (congrArg (Prod.mk 3) ex_118), ev_chk_ok _ ek_118, by decide +kernel⟩
theorem ek_119 : ev_chk ev_MT "MeadowSignsModel" false (some .int) prog_12_method_47_code evc_119 = true := by decide +kernel
theorem ex_119 : evx_119 = evc_119.map ev_x := rfl
theorem em_119 : ev_P 119 (⟨"MeadowSignsModel", "bitsOf", "(I)I"⟩, prog_12_method_47_code, 3, some .int) := ⟨_, _, rfl, (show ev_tget 8 ev_XT 119 id = (3, evx_119) from rfl).trans (congrArg (Prod.mk 3) ex_119), ev_chk_ok _ ek_119, by decide +kernel⟩
theorem ek_120 : ev_chk ev_MT "MeadowSignsModel" false (some .boolean) prog_12_method_48_code evc_120 = true := by decide +kernel
theorem ex_120 : evx_120 = evc_120.map ev_x := rfl
theorem em_120 : ev_P 120 (⟨"MeadowSignsModel", "has", "(II)Z"⟩, prog_12_method_48_code, 2, some .boolean) := ⟨_, _, rfl, (show ev_tget 8 ev_XT 120 id = (2, evx_120) from rfl).trans (congrArg (Prod.mk 2) ex_120), ev_chk_ok _ ek_120, by decide +kernel⟩
theorem ek_121 : ev_chk ev_MT "MeadowSignsModel" false (some .int) prog_12_method_49_code evc_121 = true := by decide +kernel
theorem ex_121 : evx_121 = evc_121.map ev_x := rfl
theorem em_121 : ev_P 121 (⟨"MeadowSignsModel", "width", "()I"⟩, prog_12_method_49_code, 1, some .int) := ⟨_, _, rfl, (show ev_tget 8 ev_XT 121 id = (1, evx_121) from rfl).trans (congrArg (Prod.mk 1) ex_121), ev_chk_ok _ ek_121, by decide +kernel⟩
theorem ek_122 : ev_chk ev_MT "MeadowSignsModel" false (some .int) prog_12_method_50_code evc_122 = true := by decide +kernel
theorem ex_122 : evx_122 = evc_122.map ev_x := rfl
theorem em_122 : ev_P 122 (⟨"MeadowSignsModel", "many", "()I"⟩, prog_12_method_50_code, 1, some .int) := ⟨_, _, rfl, (show ev_tget 8 ev_XT 122 id = (1, evx_122) from rfl).trans (congrArg (Prod.mk 1) ex_122), ev_chk_ok _ ek_122, by decide +kernel⟩
theorem ek_123 : ev_chk ev_MT "MeadowSignsModel" false (some .boolean) prog_12_method_51_code evc_123 = true := by decide +kernel
theorem ex_123 : evx_123 = evc_123.map ev_x := rfl
theorem em_123 : ev_P 123 (⟨"MeadowSignsModel", "isCell", "(I)Z"⟩, prog_12_method_51_code, 2, some .boolean) := ⟨_, _, rfl, (show ev_tget 8 ev_XT 123 id = (2, evx_123) from rfl).trans (congrArg (Prod.mk 2) ex_123), ev_chk_ok _ ek_123, by decide +kernel⟩
theorem ek_124 : ev_chk ev_MT "MeadowSignsModel" false (some .boolean) prog_12_method_52_code evc_124 = true := by decide +kernel
theorem ex_124 : evx_124 = evc_124.map ev_x := rfl
theorem em_124 : ev_P 124 (⟨"MeadowSignsModel", "isGlyph", "(I)Z"⟩, prog_12_method_52_code, 2, some .boolean) := ⟨_, _, rfl, (show ev_tget 8 ev_XT 124 id = (2, evx_124) from rfl).trans (congrArg (Prod.mk 2) ex_124), ev_chk_ok _ ek_124, by decide +kernel⟩
theorem ek_125 : ev_chk ev_MT "MeadowSignsModel" false (some .boolean) prog_12_method_53_code evc_125 = true := by decide +kernel
theorem ex_125 : evx_125 = evc_125.map ev_x := rfl
theorem em_125 : ev_P 125 (⟨"MeadowSignsModel", "isThing", "(I)Z"⟩, prog_12_method_53_code, 2, some .boolean) := ⟨_, _, rfl, (show ev_tget 8 ev_XT 125 id = (2, evx_125) from rfl).trans (congrArg (Prod.mk 2) ex_125), ev_chk_ok _ ek_125, by decide +kernel⟩
theorem ek_126 : ev_chk ev_MT "MeadowSignsModel" false (some .int) prog_12_method_54_code evc_126 = true := by decide +kernel
theorem ex_126 : evx_126 = evc_126.map ev_x := rfl
theorem em_126 : ev_P 126 (⟨"MeadowSignsModel", "mown", "()I"⟩, prog_12_method_54_code, 3, some .int) := ⟨_, _, rfl, (show ev_tget 8 ev_XT 126 id = (3, evx_126) from rfl).trans (congrArg (Prod.mk 3) ex_126), ev_chk_ok _ ek_126, by decide +kernel⟩
theorem ek_127 : ev_chk ev_MT "MeadowSignsModel" false (some .int) prog_12_method_55_code evc_127 = true := by decide +kernel
theorem ex_127 : evx_127 = evc_127.map ev_x := rfl
theorem em_127 : ev_P 127 (⟨"MeadowSignsModel", "looks", "()I"⟩, prog_12_method_55_code, 1, some .int) := ⟨_, _, rfl, (show ev_tget 8 ev_XT 127 id = (1, evx_127) from rfl).trans (congrArg (Prod.mk 1) ex_127), ev_chk_ok _ ek_127, by decide +kernel⟩
theorem ek_128 : ev_chk ev_MT "MeadowSignsModel" false (some .int) prog_12_method_56_code evc_128 = true := by decide +kernel
theorem ex_128 : evx_128 = evc_128.map ev_x := rfl
theorem em_128 : ev_P 128 (⟨"MeadowSignsModel", "openCells", "()I"⟩, prog_12_method_56_code, 1, some .int) := ⟨_, _, rfl, (show ev_tget 8 ev_XT 128 id = (1, evx_128) from rfl).trans (congrArg (Prod.mk 1) ex_128), ev_chk_ok _ ek_128, by decide +kernel⟩
theorem ek_129 : ev_chk ev_MT "MeadowSignsModel" false (none) prog_12_method_57_code evc_129 = true := by decide +kernel
theorem ex_129 : evx_129 = evc_129.map ev_x := rfl
theorem em_129 : ev_P 129 (⟨"MeadowSignsModel", "startAnew", "()V"⟩, prog_12_method_57_code, 2, none) := ⟨_, _, rfl, (show ev_tget 8 ev_XT 129 id = (2, evx_129) from rfl).trans (congrArg (Prod.mk 2) ex_129), ev_chk_ok _ ek_129, by decide +kernel⟩
theorem ek_130 : ev_chk ev_MT "MeadowSignsModel" false (none) prog_12_method_58_code evc_130 = true := by decide +kernel
theorem ex_130 : evx_130 = evc_130.map ev_x := rfl
theorem em_130 : ev_P 130 (⟨"MeadowSignsModel", "layWeights", "()V"⟩, prog_12_method_58_code, 4, none) := ⟨_, _, rfl, (show ev_tget 8 ev_XT 130 id = (4, evx_130) from rfl).trans (congrArg (Prod.mk 4) ex_130), ev_chk_ok _ ek_130, by decide +kernel⟩
theorem ek_131 : ev_chk ev_MT "MeadowSignsModel" false (some .int) prog_12_method_61_code evc_131 = true := by decide +kernel
theorem ex_131 : evx_131 = evc_131.map ev_x := rfl
theorem em_131 : ev_P 131 (⟨"MeadowSignsModel", "place", "(II)I"⟩, prog_12_method_61_code, 2, some .int) := ⟨_, _, rfl, (show ev_tget 8 ev_XT 131 id = (2, evx_131) from rfl).trans (congrArg (Prod.mk 2) ex_131), ev_chk_ok _ ek_131, by decide +kernel⟩
theorem ek_132 : ev_chk ev_MT "MeadowSignsModel" false (some .int) prog_12_method_62_code evc_132 = true := by decide +kernel
theorem ex_132 : evx_132 = evc_132.map ev_x := rfl
theorem em_132 : ev_P 132 (⟨"MeadowSignsModel", "sumWays", "(II)I"⟩, prog_12_method_62_code, 3, some .int) := ⟨_, _, rfl, (show ev_tget 8 ev_XT 132 id = (3, evx_132) from rfl).trans (congrArg (Prod.mk 3) ex_132), ev_chk_ok _ ek_132, by decide +kernel⟩
theorem ek_133 : ev_chk ev_MT "MeadowSignsModel" false (none) prog_12_method_63_code evc_133 = true := by decide +kernel
theorem ex_133 : evx_133 = evc_133.map ev_x := rfl
theorem em_133 : ev_P 133 (⟨"MeadowSignsModel", "layFrom", "(III)V"⟩, prog_12_method_63_code, 8, none) := ⟨_, _, rfl, (show ev_tget 8 ev_XT 133 id = (8, evx_133) from rfl).trans (congrArg (Prod.mk 8) ex_133), ev_chk_ok _ ek_133, by decide +kernel⟩
theorem ek_134 : ev_chk ev_MT "MeadowSignsModel" false (some .int) prog_12_method_64_code evc_134 = true := by decide +kernel
theorem ex_134 : evx_134 = evc_134.map ev_x := rfl
theorem em_134 : ev_P 134 (⟨"MeadowSignsModel", "read", "(I)I"⟩, prog_12_method_64_code, 5, some .int) := ⟨_, _, rfl, (show ev_tget 8 ev_XT 134 id = (5, evx_134) from rfl).trans (congrArg (Prod.mk 5) ex_134), ev_chk_ok _ ek_134, by decide +kernel⟩
theorem ek_135 : ev_chk ev_MT "MeadowSignsModel" false (some .int) prog_12_method_65_code evc_135 = true := by decide +kernel
theorem ex_135 : evx_135 = evc_135.map ev_x := rfl
theorem em_135 : ev_P 135 (⟨"MeadowSignsModel", "nextAt", "(III)I"⟩, prog_12_method_65_code, 6, some .int) := ⟨_, _, rfl, (show ev_tget 8 ev_XT 135 id = (6, evx_135) from rfl).trans (congrArg (Prod.mk 6) ex_135), ev_chk_ok _ ek_135, by decide +kernel⟩
theorem ek_136 : ev_chk ev_MT "MeadowSignsModel" false (some .int) prog_12_method_66_code evc_136 = true := by decide +kernel
theorem ex_136 : evx_136 = evc_136.map ev_x := rfl
theorem em_136 : ev_P 136 (⟨"MeadowSignsModel", "waysOf", "()I"⟩, prog_12_method_66_code, 1, some .int) := ⟨_, _, rfl, (show ev_tget 8 ev_XT 136 id = (1, evx_136) from rfl).trans (congrArg (Prod.mk 1) ex_136), ev_chk_ok _ ek_136, by decide +kernel⟩
theorem ek_137 : ev_chk ev_MT "MeadowSignsModel" false (some .int) prog_12_method_67_code evc_137 = true := by decide +kernel
theorem ex_137 : evx_137 = evc_137.map ev_x := rfl
theorem em_137 : ev_P 137 (⟨"MeadowSignsModel", "readNow", "()I"⟩, prog_12_method_67_code, 1, some .int) := ⟨_, _, rfl, (show ev_tget 8 ev_XT 137 id = (1, evx_137) from rfl).trans (congrArg (Prod.mk 1) ex_137), ev_chk_ok _ ek_137, by decide +kernel⟩
theorem ek_138 : ev_chk ev_MT "MeadowSignsModel" false (some .boolean) prog_12_method_69_code evc_138 = true := by decide +kernel
theorem ex_138 : evx_138 = evc_138.map ev_x := rfl
theorem em_138 : ev_P 138 (⟨"MeadowSignsModel", "isHarm", "()Z"⟩, prog_12_method_69_code, 2, some .boolean) := ⟨_, _, rfl, (show ev_tget 8 ev_XT 138 id = (2, evx_138) from rfl).trans (congrArg (Prod.mk 2) ex_138), ev_chk_ok _ ek_138, by decide +kernel⟩
theorem ek_139 : ev_chk ev_MT "MeadowSignsModel" false (some .int) prog_12_method_70_code evc_139 = true := by decide +kernel
theorem ex_139 : evx_139 = evc_139.map ev_x := rfl
theorem em_139 : ev_P 139 (⟨"MeadowSignsModel", "thing", "(I)I"⟩, prog_12_method_70_code, 2, some .int) := ⟨_, _, rfl, (show ev_tget 8 ev_XT 139 id = (2, evx_139) from rfl).trans (congrArg (Prod.mk 2) ex_139), ev_chk_ok _ ek_139, by decide +kernel⟩
theorem ek_140 : ev_chk ev_MT "MeadowSignsModel" false (some .int) prog_12_method_71_code evc_140 = true := by decide +kernel
theorem ex_140 : evx_140 = evc_140.map ev_x := rfl
theorem em_140 : ev_P 140 (⟨"MeadowSignsModel", "glyph", "(II)I"⟩, prog_12_method_71_code, 4, some .int) := ⟨_, _, rfl, (show ev_tget 8 ev_XT 140 id = (4, evx_140) from rfl).trans (congrArg (Prod.mk 4) ex_140), ev_chk_ok _ ek_140, by decide +kernel⟩
theorem ek_141 : ev_chk ev_MT "MeadowSignsModel" false (some .int) prog_12_method_73_code evc_141 = true := by decide +kernel
theorem ex_141 : evx_141 = evc_141.map ev_x := rfl
theorem em_141 : ev_P 141 (⟨"MeadowSignsModel", "signAt", "(I)I"⟩, prog_12_method_73_code, 3, some .int) := ⟨_, _, rfl, (show ev_tget 8 ev_XT 141 id = (3, evx_141) from rfl).trans (congrArg (Prod.mk 3) ex_141), ev_chk_ok _ ek_141, by decide +kernel⟩
theorem ek_142 : ev_chk ev_MT "MeadowSignsModel" false (some .int) prog_12_method_74_code evc_142 = true := by decide +kernel
theorem ex_142 : evx_142 = evc_142.map ev_x := rfl
theorem em_142 : ev_P 142 (⟨"MeadowSignsModel", "plot", "(II)I"⟩, prog_12_method_74_code, 3, some .int) := ⟨_, _, rfl, (show ev_tget 8 ev_XT 142 id = (3, evx_142) from rfl).trans (congrArg (Prod.mk 3) ex_142), ev_chk_ok _ ek_142, by decide +kernel⟩
theorem ek_143 : ev_chk ev_MT "MeadowSignsModel" false (none) prog_12_method_75_code evc_143 = true := by decide +kernel
theorem ex_143 : evx_143 = evc_143.map ev_x := rfl
theorem em_143 : ev_P 143 (⟨"MeadowSignsModel", "keepAct", "()V"⟩, prog_12_method_75_code, 2, none) := ⟨_, _, rfl, (show ev_tget 8 ev_XT 143 id = (2, evx_143) from rfl).trans (congrArg (Prod.mk 2) ex_143), ev_chk_ok _ ek_143, by decide +kernel⟩
theorem ek_144 : ev_chk ev_MT "MeadowSignsModel" false (some .int) prog_12_method_77_code evc_144 = true := by decide +kernel
theorem ex_144 : evx_144 = evc_144.map ev_x := rfl
theorem em_144 : ev_P 144 (⟨"MeadowSignsModel", "mow", "(I)I"⟩, prog_12_method_77_code, 2, some .int) := ⟨_, _, rfl, (show ev_tget 8 ev_XT 144 id = (2, evx_144) from rfl).trans (congrArg (Prod.mk 2) ex_144), ev_chk_ok _ ek_144, by decide +kernel⟩
theorem ek_145 : ev_chk ev_MT "MeadowSignsModel" false (some .int) prog_12_method_78_code evc_145 = true := by decide +kernel
theorem ex_145 : evx_145 = evc_145.map ev_x := rfl
theorem em_145 : ev_P 145 (⟨"MeadowSignsModel", "sow", "(I)I"⟩, prog_12_method_78_code, 2, some .int) := ⟨_, _, rfl, (show ev_tget 8 ev_XT 145 id = (2, evx_145) from rfl).trans (congrArg (Prod.mk 2) ex_145), ev_chk_ok _ ek_145, by decide +kernel⟩
theorem ek_146 : ev_chk ev_MT "MeadowSignsModel" false (some .int) prog_12_method_79_code evc_146 = true := by decide +kernel
theorem ex_146 : evx_146 = evc_146.map ev_x := rfl
theorem em_146 : ev_P 146 (⟨"MeadowSignsModel", "goYear", "()I"⟩, prog_12_method_79_code, 4, some .int) := ⟨_, _, rfl, (show ev_tget 8 ev_XT 146 id = (4, evx_146) from rfl).trans (congrArg (Prod.mk 4) ex_146), ev_chk_ok _ ek_146, by decide +kernel⟩
theorem ek_147 : ev_chk ev_MT "MeadowSignsModel" false (some .int) prog_12_method_80_code evc_147 = true := by decide +kernel
theorem ex_147 : evx_147 = evc_147.map ev_x := rfl
theorem em_147 : ev_P 147 (⟨"MeadowSignsModel", "year", "()I"⟩, prog_12_method_80_code, 1, some .int) := ⟨_, _, rfl, (show ev_tget 8 ev_XT 147 id = (1, evx_147) from rfl).trans (congrArg (Prod.mk 1) ex_147), ev_chk_ok _ ek_147, by decide +kernel⟩
theorem ek_148 : ev_chk ev_MT "MeadowSignsModel" false (some .boolean) prog_12_method_81_code evc_148 = true := by decide +kernel
theorem ex_148 : evx_148 = evc_148.map ev_x := rfl
theorem em_148 : ev_P 148 (⟨"MeadowSignsModel", "undo", "()Z"⟩, prog_12_method_81_code, 1, some .boolean) := ⟨_, _, rfl, (show ev_tget 8 ev_XT 148 id = (1, evx_148) from rfl).trans (congrArg (Prod.mk 1) ex_148), ev_chk_ok _ ek_148, by decide +kernel⟩
theorem ek_149 : ev_chk ev_MT "MeadowSignsModel" false (some .boolean) prog_12_method_82_code evc_149 = true := by decide +kernel
theorem ex_149 : evx_149 = evc_149.map ev_x := rfl
theorem em_149 : ev_P 149 (⟨"MeadowSignsModel", "redo", "()Z"⟩, prog_12_method_82_code, 1, some .boolean) := ⟨_, _, rfl, (show ev_tget 8 ev_XT 149 id = (1, evx_149) from rfl).trans (congrArg (Prod.mk 1) ex_149), ev_chk_ok _ ek_149, by decide +kernel⟩
theorem ek_150 : ev_chk ev_MT "MeadowSignsModel" false (some .int) prog_12_method_83_code evc_150 = true := by decide +kernel
theorem ex_150 : evx_150 = evc_150.map ev_x := rfl
theorem em_150 : ev_P 150 (⟨"MeadowSignsModel", "readings", "()I"⟩, prog_12_method_83_code, 1, some .int) := ⟨_, _, rfl, (show ev_tget 8 ev_XT 150 id = (1, evx_150) from rfl).trans (congrArg (Prod.mk 1) ex_150), ev_chk_ok _ ek_150, by decide +kernel⟩
theorem ek_151 : ev_chk ev_MT "MeadowSignsModel" false (some .int) prog_12_method_84_code evc_151 = true := by decide +kernel
theorem ex_151 : evx_151 = evc_151.map ev_x := rfl
theorem em_151 : ev_P 151 (⟨"MeadowSignsModel", "lies", "(I)I"⟩, prog_12_method_84_code, 2, some .int) := ⟨_, _, rfl, (show ev_tget 8 ev_XT 151 id = (2, evx_151) from rfl).trans (congrArg (Prod.mk 2) ex_151), ev_chk_ok _ ek_151, by decide +kernel⟩
theorem ek_152 : ev_chk ev_MT "MeadowSignsModel" false (some .int) prog_12_method_85_code evc_152 = true := by decide +kernel
theorem ex_152 : evx_152 = evc_152.map ev_x := rfl
theorem em_152 : ev_P 152 (⟨"MeadowSignsModel", "taken", "()I"⟩, prog_12_method_85_code, 3, some .int) := ⟨_, _, rfl, (show ev_tget 8 ev_XT 152 id = (3, evx_152) from rfl).trans (congrArg (Prod.mk 3) ex_152), ev_chk_ok _ ek_152, by decide +kernel⟩
theorem ek_153 : ev_chk ev_MT "MeadowSignsModel" false (some .int) prog_12_method_86_code evc_153 = true := by decide +kernel
theorem ex_153 : evx_153 = evc_153.map ev_x := rfl
theorem em_153 : ev_P 153 (⟨"MeadowSignsModel", "weight", "()I"⟩, prog_12_method_86_code, 1, some .int) := ⟨_, _, rfl, (show ev_tget 8 ev_XT 153 id = (1, evx_153) from rfl).trans (congrArg (Prod.mk 1) ex_153), ev_chk_ok _ ek_153, by decide +kernel⟩
theorem ek_154 : ev_chk ev_MT "MeadowSignsModel" false (some .int) prog_12_method_87_code evc_154 = true := by decide +kernel
theorem ex_154 : evx_154 = evc_154.map ev_x := rfl
theorem em_154 : ev_P 154 (⟨"MeadowSignsModel", "does", "(I)I"⟩, prog_12_method_87_code, 2, some .int) := ⟨_, _, rfl, (show ev_tget 8 ev_XT 154 id = (2, evx_154) from rfl).trans (congrArg (Prod.mk 2) ex_154), ev_chk_ok _ ek_154, by decide +kernel⟩
theorem ek_155 : ev_chk ev_MT "MeadowSignsModel" false (none) prog_12_method_88_code evc_155 = true := by decide +kernel
theorem ex_155 : evx_155 = evc_155.map ev_x := rfl
theorem em_155 : ev_P 155 (⟨"MeadowSignsModel", "goYears", "(I)V"⟩, prog_12_method_88_code, 3, none) := ⟨_, _, rfl, (show ev_tget 8 ev_XT 155 id = (3, evx_155) from rfl).trans (congrArg (Prod.mk 3) ex_155), ev_chk_ok _ ek_155, by decide +kernel⟩
theorem ek_156 : ev_chk ev_MT "MeadowSignsModel" false (none) prog_12_method_89_code evc_156 = true := by decide +kernel
theorem ex_156 : evx_156 = evc_156.map ev_x := rfl
theorem em_156 : ev_P 156 (⟨"MeadowSignsModel", "bringBack", "()V"⟩, prog_12_method_89_code, 2, none) := ⟨_, _, rfl, (show ev_tget 8 ev_XT 156 id = (2, evx_156) from rfl).trans (congrArg (Prod.mk 2) ex_156), ev_chk_ok _ ek_156, by decide +kernel⟩
theorem ek_157 : ev_chk ev_MT "MeadowSignsModel" false (some .int) prog_12_method_90_code evc_157 = true := by decide +kernel
theorem ex_157 : evx_157 = evc_157.map ev_x := rfl
theorem em_157 : ev_P 157 (⟨"MeadowSignsModel", "will", "(II)I"⟩, prog_12_method_90_code, 4, some .int) := ⟨_, _, rfl, (show ev_tget 8 ev_XT 157 id = (4, evx_157) from rfl).trans (congrArg (Prod.mk 4) ex_157), ev_chk_ok _ ek_157, by decide +kernel⟩
theorem ek_158 : ev_chk ev_MT "MeadowSignsModel" false (some .int) prog_12_method_91_code evc_158 = true := by decide +kernel
theorem ex_158 : evx_158 = evc_158.map ev_x := rfl
theorem em_158 : ev_P 158 (⟨"MeadowSignsModel", "field", "(I)I"⟩, prog_12_method_91_code, 3, some .int) := ⟨_, _, rfl, (show ev_tget 8 ev_XT 158 id = (3, evx_158) from rfl).trans (congrArg (Prod.mk 3) ex_158), ev_chk_ok _ ek_158, by decide +kernel⟩
theorem ek_159 : ev_chk ev_MT "MeadowSignsModel" false (some .int) prog_12_method_92_code evc_159 = true := by decide +kernel
theorem ex_159 : evx_159 = evc_159.map ev_x := rfl
theorem em_159 : ev_P 159 (⟨"MeadowSignsModel", "harm", "()I"⟩, prog_12_method_92_code, 1, some .int) := ⟨_, _, rfl, (show ev_tget 8 ev_XT 159 id = (1, evx_159) from rfl).trans (congrArg (Prod.mk 1) ex_159), ev_chk_ok _ ek_159, by decide +kernel⟩
theorem ek_160 : ev_chk ev_MT "MeadowSignsModel" false (some .boolean) prog_12_method_93_code evc_160 = true := by decide +kernel
theorem ex_160 : evx_160 = evc_160.map ev_x := rfl
theorem em_160 : ev_P 160 (⟨"MeadowSignsModel", "isWanted", "(II)Z"⟩, prog_12_method_93_code, 4, some .boolean) := ⟨_, _, rfl, (show ev_tget 8 ev_XT 160 id = (4, evx_160) from rfl).trans (congrArg (Prod.mk 4) ex_160), ev_chk_ok _ ek_160, by decide +kernel⟩
theorem ek_161 : ev_chk ev_MT "MeadowSignsModel" false (some .int) prog_12_method_94_code evc_161 = true := by decide +kernel
theorem ex_161 : evx_161 = evc_161.map ev_x := rfl
theorem em_161 : ev_P 161 (⟨"MeadowSignsModel", "change", "(I)I"⟩, prog_12_method_94_code, 9, some .int) := ⟨_, _, rfl, (show ev_tget 8 ev_XT 161 id = (9, evx_161) from rfl).trans (congrArg (Prod.mk 9) ex_161), ev_chk_ok _ ek_161, by decide +kernel⟩
theorem ek_162 : ev_chk ev_MT "MeadowSignsModel" false (some .int) prog_12_method_95_code evc_162 = true := by decide +kernel
theorem ex_162 : evx_162 = evc_162.map ev_x := rfl
theorem em_162 : ev_P 162 (⟨"MeadowSignsModel", "turn", "(II)I"⟩, prog_12_method_95_code, 3, some .int) := ⟨_, _, rfl, (show ev_tget 8 ev_XT 162 id = (3, evx_162) from rfl).trans (congrArg (Prod.mk 3) ex_162), ev_chk_ok _ ek_162, by decide +kernel⟩
theorem ek_163 : ev_chk ev_MT "MeadowSignsModel" false (some .int) prog_12_method_96_code evc_163 = true := by decide +kernel
theorem ex_163 : evx_163 = evc_163.map ev_x := rfl
theorem em_163 : ev_P 163 (⟨"MeadowSignsModel", "plain", "()I"⟩, prog_12_method_96_code, 2, some .int) := ⟨_, _, rfl, (show ev_tget 8 ev_XT 163 id = (2, evx_163) from rfl).trans (congrArg (Prod.mk 2) ex_163), ev_chk_ok _ ek_163, by decide +kernel⟩
theorem ek_164 : ev_chk ev_MT "MeadowSignsModel" false (some .int) prog_12_method_97_code evc_164 = true := by decide +kernel
theorem ex_164 : evx_164 = evc_164.map ev_x := rfl
theorem em_164 : ev_P 164 (⟨"MeadowSignsModel", "orders", "(I)I"⟩, prog_12_method_97_code, 6, some .int) := ⟨_, _, rfl, (show ev_tget 8 ev_XT 164 id = (6, evx_164) from rfl).trans (congrArg (Prod.mk 6) ex_164), ev_chk_ok _ ek_164, by decide +kernel⟩
theorem ek_165 : ev_chk ev_MT "MeadowSignsModel" false (some .boolean) prog_12_method_98_code evc_165 = true := by decide +kernel
theorem ex_165 : evx_165 = evc_165.map ev_x := rfl
theorem em_165 : ev_P 165 (⟨"MeadowSignsModel", "isHarmBy", "(II)Z"⟩, prog_12_method_98_code, 5, some .boolean) := ⟨_, _, rfl, (show ev_tget 8 ev_XT 165 id = (5, evx_165) from rfl).trans (congrArg (Prod.mk 5) ex_165), ev_chk_ok _ ek_165, by decide +kernel⟩
theorem ek_166 : ev_chk ev_MT "MeadowSignsModel" false (none) prog_12_method_99_code evc_166 = true := by decide +kernel
theorem ex_166 : evx_166 = evc_166.map ev_x := rfl
theorem em_166 : ev_P 166 (⟨"MeadowSignsModel", "layOrder", "(II)V"⟩, prog_12_method_99_code, 5, none) := ⟨_, _, rfl, (show ev_tget 8 ev_XT 166 id = (5, evx_166) from rfl).trans (congrArg (Prod.mk 5) ex_166), ev_chk_ok _ ek_166, by decide +kernel⟩
theorem ek_167 : ev_chk ev_MT "MeadowSignsModel" false (some .int) prog_12_method_103_code evc_167 = true := by decide +kernel
theorem ex_167 : evx_167 = evc_167.map ev_x := rfl
theorem em_167 : ev_P 167 (⟨"MeadowSignsModel", "write", "(III)I"⟩, prog_12_method_103_code, 9, some .int) := ⟨_, _, rfl, (show ev_tget 8 ev_XT 167 id = (9, evx_167) from rfl).trans (congrArg (Prod.mk 9) ex_167), ev_chk_ok _ ek_167, by decide +kernel⟩
theorem ek_168 : ev_chk ev_MT "MeadowSignsModel" false (some .int) prog_12_method_104_code evc_168 = true := by decide +kernel
theorem ex_168 : evx_168 = evc_168.map ev_x := rfl
theorem em_168 : ev_P 168 (⟨"MeadowSignsModel", "watch", "()I"⟩, prog_12_method_104_code, 3, some .int) := ⟨_, _, rfl, (show ev_tget 8 ev_XT 168 id = (3, evx_168) from rfl).trans (congrArg (Prod.mk 3) ex_168), ev_chk_ok _ ek_168, by decide +kernel⟩
theorem ek_169 : ev_chk ev_MT "MeadowSignsModel" false (some .int) prog_12_method_105_code evc_169 = true := by decide +kernel
theorem ex_169 : evx_169 = evc_169.map ev_x := rfl
theorem em_169 : ev_P 169 (⟨"MeadowSignsModel", "cows", "(II)I"⟩, prog_12_method_105_code, 6, some .int) := ⟨_, _, rfl, (show ev_tget 8 ev_XT 169 id = (6, evx_169) from rfl).trans (congrArg (Prod.mk 6) ex_169), ev_chk_ok _ ek_169, by decide +kernel⟩
theorem ek_170 : ev_chk ev_MT "MeadowSignsModel" false (some .int) prog_12_method_108_code evc_170 = true := by decide +kernel
theorem ex_170 : evx_170 = evc_170.map ev_x := rfl
theorem em_170 : ev_P 170 (⟨"MeadowSignsModel", "duel", "(IIII)I"⟩, prog_12_method_108_code, 10, some .int) := ⟨_, _, rfl, (show ev_tget 8 ev_XT 170 id = (10, evx_170) from rfl).trans (congrArg (Prod.mk 10) ex_170), ev_chk_ok _ ek_170, by decide +kernel⟩
theorem ek_171 : ev_chk ev_MT "MeadowSignsModel" false (some .int) prog_12_method_109_code evc_171 = true := by decide +kernel
theorem ex_171 : evx_171 = evc_171.map ev_x := rfl
theorem em_171 : ev_P 171 (⟨"MeadowSignsModel", "firsts", "()I"⟩, prog_12_method_109_code, 1, some .int) := ⟨_, _, rfl, (show ev_tget 8 ev_XT 171 id = (1, evx_171) from rfl).trans (congrArg (Prod.mk 1) ex_171), ev_chk_ok _ ek_171, by decide +kernel⟩
theorem ek_172 : ev_chk ev_MT "MeadowSignsModel" false (some .boolean) prog_12_method_110_code evc_172 = true := by decide +kernel
theorem ex_172 : evx_172 = evc_172.map ev_x := rfl
theorem em_172 : ev_P 172 (⟨"MeadowSignsModel", "isFirst", "(I)Z"⟩, prog_12_method_110_code, 2, some .boolean) := ⟨_, _, rfl, (show ev_tget 8 ev_XT 172 id = (2, evx_172) from rfl).trans (congrArg (Prod.mk 2) ex_172), ev_chk_ok _ ek_172, by decide +kernel⟩
theorem ek_173 : ev_chk ev_MT "MeadowSignsModel" false (some .int) prog_12_method_112_code evc_173 = true := by decide +kernel
theorem ex_173 : evx_173 = evc_173.map ev_x := rfl
theorem em_173 : ev_P 173 (⟨"MeadowSignsModel", "heard", "(IIIZ)I"⟩, prog_12_method_112_code, 5, some .int) := ⟨_, _, rfl, (show ev_tget 8 ev_XT 173 id = (5, evx_173) from rfl).trans (congrArg (Prod.mk 5) ex_173), ev_chk_ok _ ek_173, by decide +kernel⟩
theorem ek_174 : ev_chk ev_MT "MeadowSignsModel" false (some .boolean) prog_12_method_113_code evc_174 = true := by decide +kernel
theorem ex_174 : evx_174 = evc_174.map ev_x := rfl
theorem em_174 : ev_P 174 (⟨"MeadowSignsModel", "untell", "(I)Z"⟩, prog_12_method_113_code, 2, some .boolean) := ⟨_, _, rfl, (show ev_tget 8 ev_XT 174 id = (2, evx_174) from rfl).trans (congrArg (Prod.mk 2) ex_174), ev_chk_ok _ ek_174, by decide +kernel⟩
theorem ek_175 : ev_chk ev_MT "MeadowSignsModel" false (some .int) prog_12_method_114_code evc_175 = true := by decide +kernel
theorem ex_175 : evx_175 = evc_175.map ev_x := rfl
theorem em_175 : ev_P 175 (⟨"MeadowSignsModel", "later", "(I)I"⟩, prog_12_method_114_code, 2, some .int) := ⟨_, _, rfl, (show ev_tget 8 ev_XT 175 id = (2, evx_175) from rfl).trans (congrArg (Prod.mk 2) ex_175), ev_chk_ok _ ek_175, by decide +kernel⟩
theorem ek_176 : ev_chk ev_MT "MeadowSignsModel" false (some .boolean) prog_12_method_115_code evc_176 = true := by decide +kernel
theorem ex_176 : evx_176 = evc_176.map ev_x := rfl
theorem em_176 : ev_P 176 (⟨"MeadowSignsModel", "doesFit", "(II)Z"⟩, prog_12_method_115_code, 5, some .boolean) := ⟨_, _, rfl, (show ev_tget 8 ev_XT 176 id = (5, evx_176) from rfl).trans (congrArg (Prod.mk 5) ex_176), ev_chk_ok _ ek_176, by decide +kernel⟩
theorem ek_177 : ev_chk ev_MT "MeadowSignsModel" false (none) prog_12_method_116_code evc_177 = true := by decide +kernel
theorem ex_177 : evx_177 = evc_177.map ev_x := rfl
theorem em_177 : ev_P 177 (⟨"MeadowSignsModel", "layFit", "(I)V"⟩, prog_12_method_116_code, 5, none) := ⟨_, _, rfl, (show ev_tget 8 ev_XT 177 id = (5, evx_177) from rfl).trans (congrArg (Prod.mk 5) ex_177), ev_chk_ok _ ek_177, by decide +kernel⟩
theorem ek_178 : ev_chk ev_MT "MeadowSignsModel" false (some .int) prog_12_method_117_code evc_178 = true := by decide +kernel
theorem ex_178 : evx_178 = evc_178.map ev_x := rfl
theorem em_178 : ev_P 178 (⟨"MeadowSignsModel", "fit", "(I)I"⟩, prog_12_method_117_code, 2, some .int) := ⟨_, _, rfl, (show ev_tget 8 ev_XT 178 id = (2, evx_178) from rfl).trans (congrArg (Prod.mk 2) ex_178), ev_chk_ok _ ek_178, by decide +kernel⟩
theorem ek_179 : ev_chk ev_MT "MeadowSignsModel" false (some .int) prog_12_method_118_code evc_179 = true := by decide +kernel
theorem ex_179 : evx_179 = evc_179.map ev_x := rfl
theorem em_179 : ev_P 179 (⟨"MeadowSignsModel", "sure", "(III)I"⟩, prog_12_method_118_code, 5, some .int) := ⟨_, _, rfl, (show ev_tget 8 ev_XT 179 id = (5, evx_179) from rfl).trans (congrArg (Prod.mk 5) ex_179), ev_chk_ok _ ek_179, by decide +kernel⟩
theorem ek_180 : ev_chk ev_MT "MeadowSignsModel" false (some .int) prog_12_method_119_code evc_180 = true := by decide +kernel
theorem ex_180 : evx_180 = evc_180.map ev_x := rfl
theorem em_180 : ev_P 180 (⟨"MeadowSignsModel", "ask", "(II)I"⟩, prog_12_method_119_code, 7, some .int) := ⟨_, _, rfl, (show ev_tget 8 ev_XT 180 id = (7, evx_180) from rfl).trans (congrArg (Prod.mk 7) ex_180), ev_chk_ok _ ek_180, by decide +kernel⟩
theorem ek_181 : ev_chk ev_MT "MeadowSignsModel" false (some .int) prog_12_method_120_code evc_181 = true := by decide +kernel
theorem ex_181 : evx_181 = evc_181.map ev_x := rfl
theorem em_181 : ev_P 181 (⟨"MeadowSignsModel", "image", "(I)I"⟩, prog_12_method_120_code, 3, some .int) := ⟨_, _, rfl, (show ev_tget 8 ev_XT 181 id = (3, evx_181) from rfl).trans (congrArg (Prod.mk 3) ex_181), ev_chk_ok _ ek_181, by decide +kernel⟩
theorem ek_182 : ev_chk ev_MT "MeadowSignsModel" false (some .int) prog_12_method_121_code evc_182 = true := by decide +kernel
theorem ex_182 : evx_182 = evc_182.map ev_x := rfl
theorem em_182 : ev_P 182 (⟨"MeadowSignsModel", "back", "(I)I"⟩, prog_12_method_121_code, 3, some .int) := ⟨_, _, rfl, (show ev_tget 8 ev_XT 182 id = (3, evx_182) from rfl).trans (congrArg (Prod.mk 3) ex_182), ev_chk_ok _ ek_182, by decide +kernel⟩
theorem ek_183 : ev_chk ev_MT "MeadowSignsModel" false (some .int) prog_12_method_122_code evc_183 = true := by decide +kernel
theorem ex_183 : evx_183 = evc_183.map ev_x := rfl
theorem em_183 : ev_P 183 (⟨"MeadowSignsModel", "about", "(I)I"⟩, prog_12_method_122_code, 2, some .int) := ⟨_, _, rfl, (show ev_tget 8 ev_XT 183 id = (2, evx_183) from rfl).trans (congrArg (Prod.mk 2) ex_183), ev_chk_ok _ ek_183, by decide +kernel⟩
theorem ek_184 : ev_chk ev_MT "MeadowSignsModel" false (some .int) prog_12_method_123_code evc_184 = true := by decide +kernel
theorem ex_184 : evx_184 = evc_184.map ev_x := rfl
theorem em_184 : ev_P 184 (⟨"MeadowSignsModel", "feed", "(IIIII)I"⟩, prog_12_method_123_code, 8, some .int) := ⟨_, _, rfl, (show ev_tget 8 ev_XT 184 id = (8, evx_184) from rfl).trans (congrArg (Prod.mk 8) ex_184), ev_chk_ok _ ek_184, by decide +kernel⟩
theorem ek_185 : ev_chk ev_MT "MeadowSignsModel" false (some .int) prog_12_method_124_code evc_185 = true := by decide +kernel
theorem ex_185 : evx_185 = evc_185.map ev_x := rfl
theorem em_185 : ev_P 185 (⟨"MeadowSignsModel", "end", "(I)I"⟩, prog_12_method_124_code, 2, some .int) := ⟨_, _, rfl, (show ev_tget 8 ev_XT 185 id = (2, evx_185) from rfl).trans (congrArg (Prod.mk 2) ex_185), ev_chk_ok _ ek_185, by decide +kernel⟩
theorem ek_186 : ev_chk ev_MT "java/lang/Integer" false (some .int) prog_13_method_49_code evc_186 = true := by decide +kernel
theorem ex_186 : evx_186 = evc_186.map ev_x := rfl
theorem em_186 : ev_P 186 (⟨"java/lang/Integer", "bitCount", "(I)I"⟩, prog_13_method_49_code, 1, some .int) := ⟨_, _, rfl, (show ev_tget 8 ev_XT 186 id = (1, evx_186) from rfl).trans (congrArg (Prod.mk 1) ex_186), ev_chk_ok _ ek_186, by decide +kernel⟩
theorem ek_187 : ev_chk ev_MT "java/lang/Math" false (some .int) prog_14_method_69_code evc_187 = true := by decide +kernel
theorem ex_187 : evx_187 = evc_187.map ev_x := rfl
theorem em_187 : ev_P 187 (⟨"java/lang/Math", "min", "(II)I"⟩, prog_14_method_69_code, 2, some .int) := ⟨_, _, rfl, (show ev_tget 8 ev_XT 187 id = (2, evx_187) from rfl).trans (congrArg (Prod.mk 2) ex_187), ev_chk_ok _ ek_187, by decide +kernel⟩
theorem ev_MT_ok : ev_okM ev_XT ev_MT := fun k M hk => by
  have h := ev_allP_get ev_MT 0 ⟨em_0, em_1, em_2, em_3, em_4, em_5, em_6, em_7, em_8, em_9, em_10, em_11, em_12, em_13, em_14, em_15, em_16, em_17, em_18, em_19, em_20, em_21, em_22, em_23, em_24, em_25, em_26, em_27, em_28, em_29, em_30, em_31, em_32, em_33, em_34, em_35, em_36, em_37, em_38, em_39, em_40, em_41, em_42, em_43, em_44, em_45, em_46, em_47, em_48, em_49, em_50, em_51, em_52, em_53, em_54, em_55, em_56, em_57, em_58, em_59, em_60, em_61, em_62, em_63, em_64, em_65, em_66, em_67, em_68, em_69, em_70, em_71, em_72, em_73, em_74, em_75, em_76, em_77, em_78, em_79, em_80, em_81, em_82, em_83, em_84, em_85, em_86, em_87, em_88, em_89, em_90, em_91, em_92, em_93, em_94, em_95, em_96, em_97, em_98, em_99, em_100, em_101, em_102, em_103, em_104, em_105, em_106, em_107, em_108, em_109, em_110, em_111, em_112, em_113, em_114, em_115, em_116, em_117, em_118, em_119, em_120, em_121, em_122, em_123, em_124, em_125, em_126, em_127, em_128, em_129, em_130, em_131, em_132, em_133, em_134, em_135, em_136, em_137, em_138, em_139, em_140, em_141, em_142, em_143, em_144, em_145, em_146, em_147, em_148, em_149, em_150, em_151, em_152, em_153, em_154, em_155, em_156, em_157, em_158, em_159, em_160, em_161, em_162, em_163, em_164, em_165, em_166, em_167, em_168, em_169, em_170, em_171, em_172, em_173, em_174, em_175, em_176, em_177, em_178, em_179, em_180, em_181, em_182, em_183, em_184, em_185, em_186, em_187, trivial⟩ k M hk
  rw [Nat.zero_add] at h
  exact h
