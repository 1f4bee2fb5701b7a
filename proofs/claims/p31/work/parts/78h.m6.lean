/-! THE REFERENCE'S MEADOW: the methods that read a rule -/
set_option maxRecDepth 20000 in
theorem mw_emit (hen : en_ok) {lc : Launch} {h0 h : ev_H} {E : e2_E} {B : Nat → Int} {fk a fp en tok num : Int} {nm : Nat} {cs wi pi ui : Int} {R : Nat → Int → Int} (hV : mw_V h0 h (mw_o B fk a fp en tok num nm cs wi pi ui) R) {c n : Int} (hc : 0 ≤ cs ∧ cs < 1120) : mw_Cv lc 1 200 [(2, 83, 0), mw_i c, mw_i n] E h (fun h' => mw_V h0 h' (mw_o B fk a fp en tok num nm (cs + 1) wi pi ui) (mu (mu R 107 cs c) 108 cs n)) := by
  refine mw_con (D := 0) (C := evd_200) (X := e2x_200) [] hen ei_200 ex2_200 (Nat.le_of_ble_eq_true rfl) fun d0 F G hd hF hG => ?_
  show G 0 [(2, 83, 0), mw_i c, mw_i n] [] E h
  refine mw_aload hG a200_0 rfl ?_
  refine mw_geta hG hV a200_1 rfl ?_
  refine mw_aload hG a200_4 rfl ?_
  refine mw_geti hG hV a200_5 rfl ?_
  refine mw_iload hG a200_8 rfl ?_
  refine mw_iast hG hV a200_9 rfl (by omega) fun h hV => ?_
  refine mw_aload hG a200_10 rfl ?_
  refine mw_geta hG hV a200_11 rfl ?_
  refine mw_aload hG a200_14 rfl ?_
  refine mw_geti hG hV a200_15 rfl ?_
  refine mw_iload hG a200_18 rfl ?_
  refine mw_iast hG hV a200_19 rfl (by omega) fun h hV => ?_
  refine mw_aload hG a200_20 rfl ?_
  refine mw_dup hG a200_21 rfl ?_
  refine mw_geti hG hV a200_22 rfl ?_
  refine mw_push hG a200_25 mw_c1 ?_
  refine mw_add hG a200_26 ?_
  refine mw_putf hG hV a200_27 (Nat.le_of_ble_eq_true rfl) mw_s57 fun h hV => ?_
  refine mw_vret hG a200_30 (hF _ _ _ ⟨rfl, rfl, hV⟩)
set_option maxRecDepth 20000 in
theorem mw_pushE (hen : en_ok) {lc : Launch} {h0 h : ev_H} {E : e2_E} {B : Nat → Int} {fk a fp en tok num : Int} {nm : Nat} {cs wi pi ui : Int} {R : Nat → Int → Int} (hV : mw_V h0 h (mw_o B fk a fp en tok num nm cs wi pi ui) R) {w s : Int} (hc : 0 ≤ pi ∧ pi < 90) : mw_Cv lc 1 201 [(2, 83, 0), mw_i w, mw_i s] E h (fun h' => mw_V h0 h' (mw_o B fk a fp en tok num nm cs wi (pi + 1) ui) (mu (mu R 109 pi w) 110 pi s)) := by
  refine mw_con (D := 0) (C := evd_201) (X := e2x_201) [] hen ei_201 ex2_201 (Nat.le_of_ble_eq_true rfl) fun d0 F G hd hF hG => ?_
  show G 0 [(2, 83, 0), mw_i w, mw_i s] [] E h
  refine mw_aload hG a201_0 rfl ?_
  refine mw_geta hG hV a201_1 rfl ?_
  refine mw_aload hG a201_4 rfl ?_
  refine mw_geti hG hV a201_5 rfl ?_
  refine mw_iload hG a201_8 rfl ?_
  refine mw_iast hG hV a201_9 rfl (by omega) fun h hV => ?_
  refine mw_aload hG a201_10 rfl ?_
  refine mw_geta hG hV a201_11 rfl ?_
  refine mw_aload hG a201_14 rfl ?_
  refine mw_geti hG hV a201_15 rfl ?_
  refine mw_iload hG a201_18 rfl ?_
  refine mw_iast hG hV a201_19 rfl (by omega) fun h hV => ?_
  refine mw_aload hG a201_20 rfl ?_
  refine mw_dup hG a201_21 rfl ?_
  refine mw_geti hG hV a201_22 rfl ?_
  refine mw_push hG a201_25 mw_c1 ?_
  refine mw_add hG a201_26 ?_
  refine mw_putf hG hV a201_27 (Nat.le_of_ble_eq_true rfl) mw_s59 fun h hV => ?_
  refine mw_vret hG a201_30 (hF _ _ _ ⟨rfl, rfl, hV⟩)
set_option maxRecDepth 20000 in
theorem mw_isCompared (hen : en_ok) {lc : Launch} {h0 h : ev_H} {E : e2_E} {B : Nat → Int} {fk a fp en tok num : Int} {nm : Nat} {cs wi pi ui : Int} {R : Nat → Int → Int} (hV : mw_V h0 h (mw_o B fk a fp en tok num nm cs wi pi ui) R) {q : Nat} (he : mw_eE (R 109) (R 110) q) (hp : pi = ((q + 1 : Nat) : Int)) (hq : q < 90) : mw_Cp lc 1 206 [(2, 83, 0)] E h (fun z => z = 0 ∨ z = 1) := by
  refine mw_con (D := 0) (C := evd_206) (X := e2x_206) [] hen ei_206 ex2_206 (Nat.le_of_ble_eq_true rfl) fun d0 F G hd hF hG => ?_
  show G 0 [(2, 83, 0), (9, 0, 0)] [] E h
  have l7 : ∀ n : Nat, n ≤ q → G 7 [(2, 83, 0), mw_i (n : Int)] [] E h := by
    intro n
    induction n with
    | zero =>
      intro hn
      have hr := he.rng (Nat.zero_le q)
      refine mw_aload hG a206_7 rfl ?_
      refine mw_geta hG hV a206_8 rfl ?_
      refine mw_iload hG a206_11 rfl ?_
      refine mw_ald hG hV a206_12 rfl (by omega) ?_
      refine mw_push hG a206_13 mw_c5 ?_
      refine mw_icmp_eq hG a206_14 (by omega) (by omega) (fun z14 => by exfalso; omega) (fun z14 => ?_)
      refine mw_aload hG a206_17 rfl ?_
      refine mw_geta hG hV a206_18 rfl ?_
      refine mw_iload hG a206_21 rfl ?_
      refine mw_ald hG hV a206_22 rfl (by omega) ?_
      refine mw_push hG a206_23 mw_c6 ?_
      refine mw_icmp_ne hG a206_25 (by omega) (by omega) (fun z25 => ?_) (fun z25 => by exfalso; omega)
      refine mw_aload hG a206_34 rfl ?_
      refine mw_geta hG hV a206_35 rfl ?_
      refine mw_iload hG a206_38 rfl ?_
      refine mw_ald hG hV a206_39 rfl (by omega) ?_
      refine mw_push hG a206_40 mw_c4 ?_
      refine mw_icmp_ne hG a206_41 (by omega) (by omega) (fun z41 => ?_) (fun z41 => ?_)
      · refine mw_push hG a206_48 mw_c0 ?_
        refine mw_iret hG a206_49 (Or.inr ⟨rfl, by omega⟩) (hF _ _ _ ⟨rfl, rfl, _, rfl, by omega⟩)
      · refine mw_push hG a206_44 mw_c1 ?_
        refine mw_goto hG a206_45 ?_
        refine mw_iret hG a206_49 (Or.inr ⟨rfl, by omega⟩) (hF _ _ _ ⟨rfl, rfl, _, rfl, by omega⟩)
    | succ n ih =>
      intro hn
      have hr := he.rng hn
      refine mw_aload hG a206_7 rfl ?_
      refine mw_geta hG hV a206_8 rfl ?_
      refine mw_iload hG a206_11 rfl ?_
      refine mw_ald hG hV a206_12 rfl (by omega) ?_
      refine mw_push hG a206_13 mw_c5 ?_
      refine mw_icmp_eq hG a206_14 (by omega) (by omega) (fun z14 => ?_) (fun z14 => ?_)
      · refine mw_iinc hG a206_28 mw_cm1 rfl rfl rfl ?_
        refine mw_goto hG a206_31 ?_
        rw [show ((n + 1 : Nat) : Int) + (-1) = (n : Int) by omega]
        exact ih (by omega)
      · refine mw_aload hG a206_17 rfl ?_
        refine mw_geta hG hV a206_18 rfl ?_
        refine mw_iload hG a206_21 rfl ?_
        refine mw_ald hG hV a206_22 rfl (by omega) ?_
        refine mw_push hG a206_23 mw_c6 ?_
        refine mw_icmp_ne hG a206_25 (by omega) (by omega) (fun z25 => ?_) (fun z25 => ?_)
        · refine mw_aload hG a206_34 rfl ?_
          refine mw_geta hG hV a206_35 rfl ?_
          refine mw_iload hG a206_38 rfl ?_
          refine mw_ald hG hV a206_39 rfl (by omega) ?_
          refine mw_push hG a206_40 mw_c4 ?_
          refine mw_icmp_ne hG a206_41 (by omega) (by omega) (fun z41 => ?_) (fun z41 => ?_)
          · refine mw_push hG a206_48 mw_c0 ?_
            refine mw_iret hG a206_49 (Or.inr ⟨rfl, by omega⟩) (hF _ _ _ ⟨rfl, rfl, _, rfl, by omega⟩)
          · refine mw_push hG a206_44 mw_c1 ?_
            refine mw_goto hG a206_45 ?_
            refine mw_iret hG a206_49 (Or.inr ⟨rfl, by omega⟩) (hF _ _ _ ⟨rfl, rfl, _, rfl, by omega⟩)
        · refine mw_iinc hG a206_28 mw_cm1 rfl rfl rfl ?_
          refine mw_goto hG a206_31 ?_
          rw [show ((n + 1 : Nat) : Int) + (-1) = (n : Int) by omega]
          exact ih (by omega)
  refine mw_aload hG a206_0 rfl ?_
  refine mw_geti hG hV a206_1 rfl ?_
  refine mw_push hG a206_4 mw_c1 ?_
  refine mw_sub hG a206_5 ?_
  refine mw_istore hG a206_6 rfl (Nat.le_of_ble_eq_true rfl) rfl ?_
  rw [show pi - 1 = (q : Int) by omega]
  exact l7 q (Nat.le_refl _)
set_option maxRecDepth 20000 in
theorem mw_wordHere (hen : en_ok) {lc : Launch} {h0 h : ev_H} {E : e2_E} {B : Nat → Int} {fk a fp en tok num : Int} {nm : Nat} {cs wi pi ui : Int} {R : Nat → Int → Int} (hV : mw_V h0 h (mw_o B fk a fp en tok num nm cs wi pi ui) R) (hs : mw_ok (B 21) fk a en tok num nm) : mw_Cp lc 2 203 [(2, 83, 0)] E h (fun z => z = 0 ∨ (tok = 3 ∧ 97 ≤ z ∧ z ≤ 122)) := by
  refine mw_con (D := 1) (C := evd_203) (X := e2x_203) [] hen ei_203 ex2_203 (Nat.le_of_ble_eq_true rfl) fun d0 F G hd hF hG => ?_
  show G 0 [(2, 83, 0)] [] E h
  have hs0 := hs
  obtain ⟨s1, s2, s3, s4, s5, s6, s7, s8, s9, s10, s11, s12, s13⟩ := hs
  refine mw_aload hG a203_0 rfl ?_
  refine mw_pushl hG a203_1 ?_
  refine mw_vp1 hG hV a203_4 (mw_isWord hen hV hs0 (by omega)) rfl (by omega) fun y4 hy4 => ?_
  refine mw_ifc_eq hG a203_7 (by omega) (fun z7 => ?_) (fun z7 => ?_)
  · refine mw_aload hG a203_13 rfl ?_
    refine mw_pushl hG a203_14 ?_
    refine mw_vp1 hG hV a203_17 (mw_isWord hen hV hs0 (by omega)) rfl (by omega) fun y17 hy17 => ?_
    refine mw_ifc_eq hG a203_20 (by omega) (fun z20 => ?_) (fun z20 => ?_)
    · refine mw_aload hG a203_26 rfl ?_
      refine mw_pushl hG a203_27 ?_
      refine mw_vp1 hG hV a203_30 (mw_isWord hen hV hs0 (by omega)) rfl (by omega) fun y30 hy30 => ?_
      refine mw_ifc_eq hG a203_33 (by omega) (fun z33 => ?_) (fun z33 => ?_)
      · refine mw_aload hG a203_39 rfl ?_
        refine mw_pushl hG a203_40 ?_
        refine mw_vp1 hG hV a203_43 (mw_isWord hen hV hs0 (by omega)) rfl (by omega) fun y43 hy43 => ?_
        refine mw_ifc_eq hG a203_46 (by omega) (fun z46 => ?_) (fun z46 => ?_)
        · refine mw_aload hG a203_52 rfl ?_
          refine mw_pushl hG a203_53 ?_
          refine mw_vp1 hG hV a203_56 (mw_isWord hen hV hs0 (by omega)) rfl (by omega) fun y56 hy56 => ?_
          refine mw_ifc_eq hG a203_59 (by omega) (fun z59 => ?_) (fun z59 => ?_)
          · refine mw_aload hG a203_65 rfl ?_
            refine mw_pushl hG a203_66 ?_
            refine mw_vp1 hG hV a203_69 (mw_isWord hen hV hs0 (by omega)) rfl (by omega) fun y69 hy69 => ?_
            refine mw_ifc_eq hG a203_72 (by omega) (fun z72 => ?_) (fun z72 => ?_)
            · refine mw_push hG a203_80 mw_c0 ?_
              refine mw_iret hG a203_81 (Or.inl rfl) (hF _ _ _ ⟨rfl, rfl, _, rfl, by omega⟩)
            · refine mw_push hG a203_75 mw_c100 ?_
              refine mw_goto hG a203_77 ?_
              refine mw_iret hG a203_81 (Or.inl rfl) (hF _ _ _ ⟨rfl, rfl, _, rfl, by omega⟩)
          · refine mw_push hG a203_62 mw_c97 ?_
            refine mw_iret hG a203_64 (Or.inl rfl) (hF _ _ _ ⟨rfl, rfl, _, rfl, by omega⟩)
        · refine mw_push hG a203_49 mw_c109 ?_
          refine mw_iret hG a203_51 (Or.inl rfl) (hF _ _ _ ⟨rfl, rfl, _, rfl, by omega⟩)
      · refine mw_push hG a203_36 mw_c121 ?_
        refine mw_iret hG a203_38 (Or.inl rfl) (hF _ _ _ ⟨rfl, rfl, _, rfl, by omega⟩)
    · refine mw_push hG a203_23 mw_c112 ?_
      refine mw_iret hG a203_25 (Or.inl rfl) (hF _ _ _ ⟨rfl, rfl, _, rfl, by omega⟩)
  · refine mw_push hG a203_10 mw_c108 ?_
    refine mw_iret hG a203_12 (Or.inl rfl) (hF _ _ _ ⟨rfl, rfl, _, rfl, by omega⟩)
set_option maxRecDepth 20000 in
theorem mw_rankHere (hen : en_ok) {lc : Launch} {h0 h : ev_H} {E : e2_E} {B : Nat → Int} {fk a fp en tok num : Int} {nm : Nat} {cs wi pi ui : Int} {R : Nat → Int → Int} (hV : mw_V h0 h (mw_o B fk a fp en tok num nm cs wi pi ui) R) (hs : mw_ok (B 21) fk a en tok num nm) : mw_Cp lc 3 205 [(2, 83, 0)] E h (fun z => z = 0 ∨ (tok ≠ 0 ∧ (z = 1 ∨ z = 2 ∨ ((z = 4 ∨ z = 5 ∨ z = 6) ∧ 37 ≤ mw_sg R (B 21) a ∧ mw_sg R (B 21) a ≤ 62)))) := by
  refine mw_con (D := 2) (C := evd_205) (X := e2x_205) [] hen ei_205 ex2_205 (Nat.le_of_ble_eq_true rfl) fun d0 F G hd hF hG => ?_
  show G 0 [(2, 83, 0)] [] E h
  have hs0 := hs
  obtain ⟨s1, s2, s3, s4, s5, s6, s7, s8, s9, s10, s11, s12, s13⟩ := hs
  refine mw_aload hG a205_0 rfl ?_
  refine mw_pushl hG a205_1 ?_
  refine mw_vp1 hG hV a205_4 (mw_isWord hen hV hs0 (by omega)) rfl (by omega) fun y4 hy4 => ?_
  refine mw_ifc_eq hG a205_7 (by omega) (fun z7 => ?_) (fun z7 => ?_)
  · refine mw_aload hG a205_12 rfl ?_
    refine mw_pushl hG a205_13 ?_
    refine mw_vp1 hG hV a205_16 (mw_isWord hen hV hs0 (by omega)) rfl (by omega) fun y16 hy16 => ?_
    refine mw_ifc_eq hG a205_19 (by omega) (fun z19 => ?_) (fun z19 => ?_)
    · refine mw_aload hG a205_24 rfl ?_
      refine mw_push hG a205_25 mw_c60 ?_
      refine mw_vp1 hG hV a205_27 (mw_isSignHere hen hV hs0 (by omega)) rfl (by omega) fun y27 hy27 => ?_
      refine mw_ifc_ne hG a205_30 (by omega) (fun z30 => ?_) (fun z30 => ?_)
      · refine mw_push hG a205_51 mw_c4 ?_
        refine mw_iret hG a205_52 (Or.inl rfl) (hF _ _ _ ⟨rfl, rfl, _, rfl, by omega⟩)
      · refine mw_aload hG a205_33 rfl ?_
        refine mw_push hG a205_34 mw_c62 ?_
        refine mw_vp1 hG hV a205_36 (mw_isSignHere hen hV hs0 (by omega)) rfl (by omega) fun y36 hy36 => ?_
        refine mw_ifc_ne hG a205_39 (by omega) (fun z39 => ?_) (fun z39 => ?_)
        · refine mw_push hG a205_51 mw_c4 ?_
          refine mw_iret hG a205_52 (Or.inl rfl) (hF _ _ _ ⟨rfl, rfl, _, rfl, by omega⟩)
        · refine mw_aload hG a205_42 rfl ?_
          refine mw_push hG a205_43 mw_c61 ?_
          refine mw_vp1 hG hV a205_45 (mw_isSignHere hen hV hs0 (by omega)) rfl (by omega) fun y45 hy45 => ?_
          refine mw_ifc_eq hG a205_48 (by omega) (fun z48 => ?_) (fun z48 => ?_)
          · refine mw_aload hG a205_53 rfl ?_
            refine mw_push hG a205_54 mw_c43 ?_
            refine mw_vp1 hG hV a205_56 (mw_isSignHere hen hV hs0 (by omega)) rfl (by omega) fun y56 hy56 => ?_
            refine mw_ifc_ne hG a205_59 (by omega) (fun z59 => ?_) (fun z59 => ?_)
            · refine mw_push hG a205_71 mw_c5 ?_
              refine mw_iret hG a205_72 (Or.inl rfl) (hF _ _ _ ⟨rfl, rfl, _, rfl, by omega⟩)
            · refine mw_aload hG a205_62 rfl ?_
              refine mw_push hG a205_63 mw_c45 ?_
              refine mw_vp1 hG hV a205_65 (mw_isSignHere hen hV hs0 (by omega)) rfl (by omega) fun y65 hy65 => ?_
              refine mw_ifc_eq hG a205_68 (by omega) (fun z68 => ?_) (fun z68 => ?_)
              · refine mw_aload hG a205_73 rfl ?_
                refine mw_push hG a205_74 mw_c42 ?_
                refine mw_vp1 hG hV a205_76 (mw_isSignHere hen hV hs0 (by omega)) rfl (by omega) fun y76 hy76 => ?_
                refine mw_ifc_ne hG a205_79 (by omega) (fun z79 => ?_) (fun z79 => ?_)
                · refine mw_push hG a205_100 mw_c6 ?_
                  refine mw_goto hG a205_102 ?_
                  refine mw_iret hG a205_106 (Or.inl rfl) (hF _ _ _ ⟨rfl, rfl, _, rfl, by omega⟩)
                · refine mw_aload hG a205_82 rfl ?_
                  refine mw_push hG a205_83 mw_c47 ?_
                  refine mw_vp1 hG hV a205_85 (mw_isSignHere hen hV hs0 (by omega)) rfl (by omega) fun y85 hy85 => ?_
                  refine mw_ifc_ne hG a205_88 (by omega) (fun z88 => ?_) (fun z88 => ?_)
                  · refine mw_push hG a205_100 mw_c6 ?_
                    refine mw_goto hG a205_102 ?_
                    refine mw_iret hG a205_106 (Or.inl rfl) (hF _ _ _ ⟨rfl, rfl, _, rfl, by omega⟩)
                  · refine mw_aload hG a205_91 rfl ?_
                    refine mw_push hG a205_92 mw_c37 ?_
                    refine mw_vp1 hG hV a205_94 (mw_isSignHere hen hV hs0 (by omega)) rfl (by omega) fun y94 hy94 => ?_
                    refine mw_ifc_eq hG a205_97 (by omega) (fun z97 => ?_) (fun z97 => ?_)
                    · refine mw_push hG a205_105 mw_c0 ?_
                      refine mw_iret hG a205_106 (Or.inl rfl) (hF _ _ _ ⟨rfl, rfl, _, rfl, by omega⟩)
                    · refine mw_push hG a205_100 mw_c6 ?_
                      refine mw_goto hG a205_102 ?_
                      refine mw_iret hG a205_106 (Or.inl rfl) (hF _ _ _ ⟨rfl, rfl, _, rfl, by omega⟩)
              · refine mw_push hG a205_71 mw_c5 ?_
                refine mw_iret hG a205_72 (Or.inl rfl) (hF _ _ _ ⟨rfl, rfl, _, rfl, by omega⟩)
          · refine mw_push hG a205_51 mw_c4 ?_
            refine mw_iret hG a205_52 (Or.inl rfl) (hF _ _ _ ⟨rfl, rfl, _, rfl, by omega⟩)
    · refine mw_push hG a205_22 mw_c1 ?_
      refine mw_iret hG a205_23 (Or.inl rfl) (hF _ _ _ ⟨rfl, rfl, _, rfl, by omega⟩)
  · refine mw_push hG a205_10 mw_c2 ?_
    refine mw_iret hG a205_11 (Or.inl rfl) (hF _ _ _ ⟨rfl, rfl, _, rfl, by omega⟩)
set_option maxHeartbeats 4000000 in
set_option maxRecDepth 20000 in
theorem mw_unit (hen : en_ok) {lc : Launch} {h0 h : ev_H} {E : e2_E} {B : Nat → Int} {fk a fp en tok num : Int} {nm : Nat} {cs wi pi ui : Int} {R : Nat → Int → Int} (hV : mw_V h0 h (mw_o B fk a fp en tok num nm cs wi pi ui) R) (hs : mw_ok (B 21) fk a en tok num nm) (hb : 0 ≤ B 13 ∧ B 13 ≤ 1) {R0 : Nat → Int → Int} {r : Int} {fr : Nat} (hE : mw_ZE R0 R (B 13) r fr) {q L : Nat} (hQ : mw_eQ R (B 13) fr cs wi pi ui 0 q L) (hk : fk = 0) : mw_Ci lc 3 204 [(2, 83, 0)] E h (fun z h' => ∃ R2 fk2 a2 fp2 en2 tok2 num2 nm2 cs2 wi2 pi2 ui2, mw_V h0 h' (mw_o B fk2 a2 fp2 en2 tok2 num2 nm2 cs2 wi2 pi2 ui2) R2 ∧ mw_ok (B 21) fk2 a2 en2 tok2 num2 nm2 ∧ mw_ZE R0 R2 (B 13) r fr ∧ ((z = 1 ∧ mw_eS R2 (B 13) fr cs2 wi2 pi2 ui2 0) ∨ (z = 0 ∧ mw_eS R2 (B 13) fr cs2 wi2 pi2 ui2 1) ∨ ((z = 0 ∨ z = 1) ∧ fk2 ≠ 0 ∧ mw_eS R2 (B 13) fr cs2 wi2 pi2 ui2 1)) ∧ a ≤ a2 ∧ (fk2 = 0 → a < a2 ∨ pi2 < pi)) := by
  refine mw_con (D := 2) (C := evd_204) (X := e2x_204) [] hen ei_204 ex2_204 (Nat.le_of_ble_eq_true rfl) fun d0 F G hd hF hG => ?_
  show G 0 [(2, 83, 0), (9, 0, 0), (9, 0, 0), (9, 0, 0), (9, 0, 0), (9, 0, 0), (9, 0, 0)] [] E h
  have hs0 := hs
  obtain ⟨s1, s2, s3, s4, s5, s6, s7, s8, s9, s10, s11, s12, s13⟩ := hs
  obtain ⟨q1, q2, q3, q4, q5, q6, q7, q8, q9, q10, q11, q12⟩ := id hQ
  have hp : pi - 1 = (q : Int) := by omega
  have hr : 1 ≤ R 109 (pi - 1) ∧ R 109 (pi - 1) ≤ 8 := by
    rw [hp]
    have := q5.rng (Nat.le_refl q)
    omega
  have hU := hE.1.g92 (i := B 13) (by omega)
  have hfr : 560 * B 13 ≤ (fr : Int) := hE.2.2.2.2.2
  have hbq := mw_bc_le (R 109) q
  have h11 := q11 rfl
  have t147 : ∀ (h : ev_H) (fk2 fp2 z nt br c f : Int), mw_V h0 h (mw_o B fk2 a fp2 en tok num nm cs wi pi ui) R → 0 ≤ fk2 → fk2 ≤ 5 → (nt = 0 ∨ nt = 1) → (br = 0 ∨ br = 1) → (c = 0 ∨ (97 ≤ c ∧ c ≤ 122)) → (fk2 = 0 → tok ≠ 0 ∧ (nt = 1 ∨ br = 1 → wi < 7) ∧ (nt = 0 → R 92 (B 13) < 60 ∧ ui < 30)) → G 147 [(2, 83, 0), mw_i z, mw_i nt, mw_i br, mw_i c, mw_i f, (9, 0, 0)] [] E h := by
    intro h fk2 fp2 z nt br c f hV g1 g2 hnt hbr hcc hok
    have ho0 := hs0.fk (fk2 := fk2) g1 g2
    refine mw_aload hG a204_147 rfl ?_
    refine mw_vp0 hG hV a204_148 (mw_isGood hen hV (by omega)) rfl (by omega) fun y148 hy148 => ?_
    refine mw_ifc_ne hG a204_151 (by omega) (fun z151 => ?_) (fun z151 => ?_)
    · obtain ⟨k1, k2, k3⟩ := hok (by omega)
      rcases (show nt = 1 ∨ (nt = 0 ∧ br = 1) ∨ (nt = 0 ∧ br = 0) by omega) with rfl | ⟨rfl, rfl⟩ | ⟨rfl, rfl⟩
      · refine mw_aload hG a204_156 rfl ?_
        refine mw_geta hG hV a204_157 rfl ?_
        refine mw_aload hG a204_160 rfl ?_
        refine mw_geti hG hV a204_161 rfl ?_
        refine mw_dup2 hG a204_164 rfl rfl ?_
        refine mw_ald hG hV a204_165 rfl (by omega) ?_
        refine mw_iload hG a204_166 rfl ?_
        refine mw_ifc_eq hG a204_167 (by omega) (fun z167 => by exfalso; omega) (fun z167 => ?_)
        refine mw_push hG a204_170 mw_c0 ?_
        refine mw_goto hG a204_171 ?_
        refine mw_add hG a204_175 ?_
        refine mw_iast hG hV a204_176 rfl (by omega) fun h hV => ?_
        refine mw_aload hG a204_177 rfl ?_
        refine mw_dup hG a204_178 rfl ?_
        refine mw_geti hG hV a204_179 rfl ?_
        refine mw_iload hG a204_182 rfl ?_
        refine mw_ifc_eq hG a204_183 (by omega) (fun z183 => by exfalso; omega) (fun z183 => ?_)
        refine mw_push hG a204_186 mw_c0 ?_
        refine mw_goto hG a204_187 ?_
        refine mw_add hG a204_191 ?_
        refine mw_putf hG hV a204_192 (Nat.le_of_ble_eq_true rfl) mw_s60 fun h hV => ?_
        refine mw_iload hG a204_195 rfl ?_
        refine mw_ifc_ne hG a204_197 (by omega) (fun z197 => ?_) (fun z197 => ?_)
        · refine mw_push hG a204_207 mw_c0 ?_
          refine mw_istore hG a204_208 rfl (Nat.le_of_ble_eq_true rfl) rfl ?_
          refine mw_aload hG a204_210 rfl ?_
          refine mw_vv0 hG hV a204_211 (mw_goOn hen hV (by omega)) rfl (by omega) fun h hq211 => ?_
          obtain ⟨a211, en211, tok211, num211, nm211, hV, ho211, f211⟩ := hq211
          obtain ⟨o211a, o211b, o211c, o211d, o211e, o211f, o211g, o211h, o211i, o211j, o211k, o211l, o211m⟩ := id ho211
          refine mw_iload hG a204_214 rfl ?_
          refine mw_ifc_ne hG a204_215 (by omega) (fun z215 => ?_) (fun z215 => by exfalso; omega)
          refine mw_aload hG a204_222 rfl ?_
          refine mw_iload hG a204_223 rfl ?_
          refine mw_ifc_eq hG a204_224 (by omega) (fun z224 => by exfalso; omega) (fun z224 => ?_)
          refine mw_push hG a204_227 mw_c3 ?_
          refine mw_goto hG a204_228 ?_
          refine mw_push hG a204_233 mw_c126 ?_
          refine mw_vv2 hG hV a204_235 (mw_pushE hen hV (by omega)) rfl (by omega) fun h hV => ?_
          refine mw_aload hG a204_238 rfl ?_
          refine mw_dup hG a204_239 rfl ?_
          refine mw_geti hG hV a204_240 rfl ?_
          refine mw_push hG a204_243 mw_c1 ?_
          refine mw_add hG a204_244 ?_
          refine mw_putf hG hV a204_245 (Nat.le_of_ble_eq_true rfl) mw_s58 fun h hV => ?_
          refine mw_push hG a204_248 mw_c1 ?_
          refine mw_iret hG a204_249 (Or.inr ⟨rfl, by omega⟩) (hF _ _ _ ⟨rfl, _, rfl, _, _, _, _, _, _, _, _, _, _, _, _, hV, ho211, (hE.p92 (by omega)).psh, Or.inl ⟨rfl, Or.inr ⟨q + 1, L, hQ.brk (d := 0) (Or.inl rfl) (by omega) (Or.inl ⟨rfl, rfl⟩) (by omega)⟩⟩, by omega, by omega⟩)
        · refine mw_aload hG a204_200 rfl ?_
          refine mw_geti hG hV a204_201 rfl ?_
          refine mw_goto hG a204_204 ?_
          refine mw_istore hG a204_208 rfl (Nat.le_of_ble_eq_true rfl) rfl ?_
          refine mw_aload hG a204_210 rfl ?_
          refine mw_vv0 hG hV a204_211 (mw_goOn hen hV (by omega)) rfl (by omega) fun h hq211 => ?_
          obtain ⟨a211, en211, tok211, num211, nm211, hV, ho211, f211⟩ := hq211
          obtain ⟨o211a, o211b, o211c, o211d, o211e, o211f, o211g, o211h, o211i, o211j, o211k, o211l, o211m⟩ := id ho211
          refine mw_iload hG a204_214 rfl ?_
          refine mw_ifc_ne hG a204_215 (by omega) (fun z215 => ?_) (fun z215 => by exfalso; omega)
          refine mw_aload hG a204_222 rfl ?_
          refine mw_iload hG a204_223 rfl ?_
          refine mw_ifc_eq hG a204_224 (by omega) (fun z224 => by exfalso; omega) (fun z224 => ?_)
          refine mw_push hG a204_227 mw_c3 ?_
          refine mw_goto hG a204_228 ?_
          refine mw_push hG a204_233 mw_c126 ?_
          refine mw_vv2 hG hV a204_235 (mw_pushE hen hV (by omega)) rfl (by omega) fun h hV => ?_
          refine mw_aload hG a204_238 rfl ?_
          refine mw_dup hG a204_239 rfl ?_
          refine mw_geti hG hV a204_240 rfl ?_
          refine mw_push hG a204_243 mw_c1 ?_
          refine mw_add hG a204_244 ?_
          refine mw_putf hG hV a204_245 (Nat.le_of_ble_eq_true rfl) mw_s58 fun h hV => ?_
          refine mw_push hG a204_248 mw_c1 ?_
          refine mw_iret hG a204_249 (Or.inr ⟨rfl, by omega⟩) (hF _ _ _ ⟨rfl, _, rfl, _, _, _, _, _, _, _, _, _, _, _, _, hV, ho211, (hE.p92 (by omega)).psh, Or.inl ⟨rfl, Or.inr ⟨q + 1, L, hQ.brk (d := 0) (Or.inl rfl) (by omega) (Or.inl ⟨rfl, rfl⟩) (by omega)⟩⟩, by omega, by omega⟩)
      · refine mw_aload hG a204_156 rfl ?_
        refine mw_geta hG hV a204_157 rfl ?_
        refine mw_aload hG a204_160 rfl ?_
        refine mw_geti hG hV a204_161 rfl ?_
        refine mw_dup2 hG a204_164 rfl rfl ?_
        refine mw_ald hG hV a204_165 rfl (by omega) ?_
        refine mw_iload hG a204_166 rfl ?_
        refine mw_ifc_eq hG a204_167 (by omega) (fun z167 => ?_) (fun z167 => by exfalso; omega)
        refine mw_push hG a204_174 mw_c1 ?_
        refine mw_add hG a204_175 ?_
        refine mw_iast hG hV a204_176 rfl (by omega) fun h hV => ?_
        refine mw_aload hG a204_177 rfl ?_
        refine mw_dup hG a204_178 rfl ?_
        refine mw_geti hG hV a204_179 rfl ?_
        refine mw_iload hG a204_182 rfl ?_
        refine mw_ifc_eq hG a204_183 (by omega) (fun z183 => ?_) (fun z183 => by exfalso; omega)
        refine mw_push hG a204_190 mw_c1 ?_
        refine mw_add hG a204_191 ?_
        refine mw_putf hG hV a204_192 (Nat.le_of_ble_eq_true rfl) mw_s60 fun h hV => ?_
        refine mw_iload hG a204_195 rfl ?_
        refine mw_ifc_ne hG a204_197 (by omega) (fun z197 => ?_) (fun z197 => ?_)
        · refine mw_push hG a204_207 mw_c0 ?_
          refine mw_istore hG a204_208 rfl (Nat.le_of_ble_eq_true rfl) rfl ?_
          refine mw_aload hG a204_210 rfl ?_
          refine mw_vv0 hG hV a204_211 (mw_goOn hen hV (by omega)) rfl (by omega) fun h hq211 => ?_
          obtain ⟨a211, en211, tok211, num211, nm211, hV, ho211, f211⟩ := hq211
          obtain ⟨o211a, o211b, o211c, o211d, o211e, o211f, o211g, o211h, o211i, o211j, o211k, o211l, o211m⟩ := id ho211
          refine mw_iload hG a204_214 rfl ?_
          refine mw_ifc_ne hG a204_215 (by omega) (fun z215 => by exfalso; omega) (fun z215 => ?_)
          refine mw_iload hG a204_218 rfl ?_
          refine mw_ifc_eq hG a204_219 (by omega) (fun z219 => by exfalso; omega) (fun z219 => ?_)
          refine mw_aload hG a204_222 rfl ?_
          refine mw_iload hG a204_223 rfl ?_
          refine mw_ifc_eq hG a204_224 (by omega) (fun z224 => ?_) (fun z224 => by exfalso; omega)
          refine mw_push hG a204_231 mw_c7 ?_
          refine mw_push hG a204_233 mw_c126 ?_
          refine mw_vv2 hG hV a204_235 (mw_pushE hen hV (by omega)) rfl (by omega) fun h hV => ?_
          refine mw_aload hG a204_238 rfl ?_
          refine mw_dup hG a204_239 rfl ?_
          refine mw_geti hG hV a204_240 rfl ?_
          refine mw_push hG a204_243 mw_c1 ?_
          refine mw_add hG a204_244 ?_
          refine mw_putf hG hV a204_245 (Nat.le_of_ble_eq_true rfl) mw_s58 fun h hV => ?_
          refine mw_push hG a204_248 mw_c1 ?_
          refine mw_iret hG a204_249 (Or.inr ⟨rfl, by omega⟩) (hF _ _ _ ⟨rfl, _, rfl, _, _, _, _, _, _, _, _, _, _, _, _, hV, ho211, (hE.p92 (by omega)).psh, Or.inl ⟨rfl, Or.inr ⟨q + 1, L, hQ.brk (d := 1) (Or.inr rfl) (by omega) (Or.inr rfl) (by omega)⟩⟩, by omega, by omega⟩)
        · refine mw_aload hG a204_200 rfl ?_
          refine mw_geti hG hV a204_201 rfl ?_
          refine mw_goto hG a204_204 ?_
          refine mw_istore hG a204_208 rfl (Nat.le_of_ble_eq_true rfl) rfl ?_
          refine mw_aload hG a204_210 rfl ?_
          refine mw_vv0 hG hV a204_211 (mw_goOn hen hV (by omega)) rfl (by omega) fun h hq211 => ?_
          obtain ⟨a211, en211, tok211, num211, nm211, hV, ho211, f211⟩ := hq211
          obtain ⟨o211a, o211b, o211c, o211d, o211e, o211f, o211g, o211h, o211i, o211j, o211k, o211l, o211m⟩ := id ho211
          refine mw_iload hG a204_214 rfl ?_
          refine mw_ifc_ne hG a204_215 (by omega) (fun z215 => by exfalso; omega) (fun z215 => ?_)
          refine mw_iload hG a204_218 rfl ?_
          refine mw_ifc_eq hG a204_219 (by omega) (fun z219 => by exfalso; omega) (fun z219 => ?_)
          refine mw_aload hG a204_222 rfl ?_
          refine mw_iload hG a204_223 rfl ?_
          refine mw_ifc_eq hG a204_224 (by omega) (fun z224 => ?_) (fun z224 => by exfalso; omega)
          refine mw_push hG a204_231 mw_c7 ?_
          refine mw_push hG a204_233 mw_c126 ?_
          refine mw_vv2 hG hV a204_235 (mw_pushE hen hV (by omega)) rfl (by omega) fun h hV => ?_
          refine mw_aload hG a204_238 rfl ?_
          refine mw_dup hG a204_239 rfl ?_
          refine mw_geti hG hV a204_240 rfl ?_
          refine mw_push hG a204_243 mw_c1 ?_
          refine mw_add hG a204_244 ?_
          refine mw_putf hG hV a204_245 (Nat.le_of_ble_eq_true rfl) mw_s58 fun h hV => ?_
          refine mw_push hG a204_248 mw_c1 ?_
          refine mw_iret hG a204_249 (Or.inr ⟨rfl, by omega⟩) (hF _ _ _ ⟨rfl, _, rfl, _, _, _, _, _, _, _, _, _, _, _, _, hV, ho211, (hE.p92 (by omega)).psh, Or.inl ⟨rfl, Or.inr ⟨q + 1, L, hQ.brk (d := 1) (Or.inr rfl) (by omega) (Or.inr rfl) (by omega)⟩⟩, by omega, by omega⟩)
      · refine mw_aload hG a204_156 rfl ?_
        refine mw_geta hG hV a204_157 rfl ?_
        refine mw_aload hG a204_160 rfl ?_
        refine mw_geti hG hV a204_161 rfl ?_
        refine mw_dup2 hG a204_164 rfl rfl ?_
        refine mw_ald hG hV a204_165 rfl (by omega) ?_
        refine mw_iload hG a204_166 rfl ?_
        refine mw_ifc_eq hG a204_167 (by omega) (fun z167 => ?_) (fun z167 => by exfalso; omega)
        refine mw_push hG a204_174 mw_c1 ?_
        refine mw_add hG a204_175 ?_
        refine mw_iast hG hV a204_176 rfl (by omega) fun h hV => ?_
        refine mw_aload hG a204_177 rfl ?_
        refine mw_dup hG a204_178 rfl ?_
        refine mw_geti hG hV a204_179 rfl ?_
        refine mw_iload hG a204_182 rfl ?_
        refine mw_ifc_eq hG a204_183 (by omega) (fun z183 => ?_) (fun z183 => by exfalso; omega)
        refine mw_push hG a204_190 mw_c1 ?_
        refine mw_add hG a204_191 ?_
        refine mw_putf hG hV a204_192 (Nat.le_of_ble_eq_true rfl) mw_s60 fun h hV => ?_
        refine mw_iload hG a204_195 rfl ?_
        refine mw_ifc_ne hG a204_197 (by omega) (fun z197 => ?_) (fun z197 => ?_)
        · refine mw_push hG a204_207 mw_c0 ?_
          refine mw_istore hG a204_208 rfl (Nat.le_of_ble_eq_true rfl) rfl ?_
          refine mw_aload hG a204_210 rfl ?_
          refine mw_vv0 hG hV a204_211 (mw_goOn hen hV (by omega)) rfl (by omega) fun h hq211 => ?_
          obtain ⟨a211, en211, tok211, num211, nm211, hV, ho211, f211⟩ := hq211
          obtain ⟨o211a, o211b, o211c, o211d, o211e, o211f, o211g, o211h, o211i, o211j, o211k, o211l, o211m⟩ := id ho211
          refine mw_iload hG a204_214 rfl ?_
          refine mw_ifc_ne hG a204_215 (by omega) (fun z215 => by exfalso; omega) (fun z215 => ?_)
          refine mw_iload hG a204_218 rfl ?_
          refine mw_ifc_eq hG a204_219 (by omega) (fun z219 => ?_) (fun z219 => by exfalso; omega)
          refine mw_aload hG a204_250 rfl ?_
          refine mw_iload hG a204_251 rfl ?_
          refine mw_ifc_ne hG a204_253 (by omega) (fun z253 => ?_) (fun z253 => ?_)
          · refine mw_iload hG a204_261 rfl ?_
            refine mw_iload hG a204_263 rfl ?_
            refine mw_vv2 hG hV a204_265 (mw_emit hen hV (by omega)) rfl (by omega) fun h hV => ?_
            refine mw_push hG a204_268 mw_c0 ?_
            refine mw_iret hG a204_269 (Or.inr ⟨rfl, by omega⟩) (hF _ _ _ ⟨rfl, _, rfl, _, _, _, _, _, _, _, _, _, _, _, _, hV, ho211, (hE.p92 (by omega)).emi hb (by omega) (by omega), Or.inr (Or.inl ⟨rfl, Or.inr ⟨q, L + 1, hQ.opd (by omega) (by omega)⟩⟩), by omega, by omega⟩)
          · refine mw_push hG a204_256 mw_c110 ?_
            refine mw_goto hG a204_258 ?_
            refine mw_iload hG a204_263 rfl ?_
            refine mw_vv2 hG hV a204_265 (mw_emit hen hV (by omega)) rfl (by omega) fun h hV => ?_
            refine mw_push hG a204_268 mw_c0 ?_
            refine mw_iret hG a204_269 (Or.inr ⟨rfl, by omega⟩) (hF _ _ _ ⟨rfl, _, rfl, _, _, _, _, _, _, _, _, _, _, _, _, hV, ho211, (hE.p92 (by omega)).emi hb (by omega) (by omega), Or.inr (Or.inl ⟨rfl, Or.inr ⟨q, L + 1, hQ.opd (by omega) (by omega)⟩⟩), by omega, by omega⟩)
        · refine mw_aload hG a204_200 rfl ?_
          refine mw_geti hG hV a204_201 rfl ?_
          refine mw_goto hG a204_204 ?_
          refine mw_istore hG a204_208 rfl (Nat.le_of_ble_eq_true rfl) rfl ?_
          refine mw_aload hG a204_210 rfl ?_
          refine mw_vv0 hG hV a204_211 (mw_goOn hen hV (by omega)) rfl (by omega) fun h hq211 => ?_
          obtain ⟨a211, en211, tok211, num211, nm211, hV, ho211, f211⟩ := hq211
          obtain ⟨o211a, o211b, o211c, o211d, o211e, o211f, o211g, o211h, o211i, o211j, o211k, o211l, o211m⟩ := id ho211
          refine mw_iload hG a204_214 rfl ?_
          refine mw_ifc_ne hG a204_215 (by omega) (fun z215 => by exfalso; omega) (fun z215 => ?_)
          refine mw_iload hG a204_218 rfl ?_
          refine mw_ifc_eq hG a204_219 (by omega) (fun z219 => ?_) (fun z219 => by exfalso; omega)
          refine mw_aload hG a204_250 rfl ?_
          refine mw_iload hG a204_251 rfl ?_
          refine mw_ifc_ne hG a204_253 (by omega) (fun z253 => ?_) (fun z253 => ?_)
          · refine mw_iload hG a204_261 rfl ?_
            refine mw_iload hG a204_263 rfl ?_
            refine mw_vv2 hG hV a204_265 (mw_emit hen hV (by omega)) rfl (by omega) fun h hV => ?_
            refine mw_push hG a204_268 mw_c0 ?_
            refine mw_iret hG a204_269 (Or.inr ⟨rfl, by omega⟩) (hF _ _ _ ⟨rfl, _, rfl, _, _, _, _, _, _, _, _, _, _, _, _, hV, ho211, (hE.p92 (by omega)).emi hb (by omega) (by omega), Or.inr (Or.inl ⟨rfl, Or.inr ⟨q, L + 1, hQ.opd (by omega) (by omega)⟩⟩), by omega, by omega⟩)
          · refine mw_push hG a204_256 mw_c110 ?_
            refine mw_goto hG a204_258 ?_
            refine mw_iload hG a204_263 rfl ?_
            refine mw_vv2 hG hV a204_265 (mw_emit hen hV (by omega)) rfl (by omega) fun h hV => ?_
            refine mw_push hG a204_268 mw_c0 ?_
            refine mw_iret hG a204_269 (Or.inr ⟨rfl, by omega⟩) (hF _ _ _ ⟨rfl, _, rfl, _, _, _, _, _, _, _, _, _, _, _, _, hV, ho211, (hE.p92 (by omega)).emi hb (by omega) (by omega), Or.inr (Or.inl ⟨rfl, Or.inr ⟨q, L + 1, hQ.opd (by omega) (by omega)⟩⟩), by omega, by omega⟩)
    · refine mw_push hG a204_154 mw_c1 ?_
      refine mw_iret hG a204_155 (Or.inr ⟨rfl, by omega⟩) (hF _ _ _ ⟨rfl, _, rfl, _, _, _, _, _, _, _, _, _, _, _, _, hV, ho0, hE, Or.inl ⟨rfl, Or.inr ⟨q, L, hQ⟩⟩, by omega, by omega⟩)
  have t98 : ∀ (h : ev_H) (z nt br c f : Int) (v5 : ev_V), mw_V h0 h (mw_o B fk a fp en tok num nm cs wi pi ui) R → (nt = 0 ∨ (nt = 1 ∧ tok = 3)) → ((br = 1 ∧ tok = 5) ∨ br = 0) → (c = 0 ∨ (tok = 3 ∧ 97 ≤ c ∧ c ≤ 122)) → (f = 0 → R 92 (B 13) ≠ 60 ∧ ui ≠ 30) → (f = 0 ∨ f = 1) → G 98 [(2, 83, 0), mw_i z, mw_i nt, mw_i br, mw_i c, v5, (9, 0, 0)] [mw_i f] E h := by
    intro h z nt br c f v5 hV hnt hbr hcc hf hf2
    refine mw_istore hG a204_98 rfl (Nat.le_of_ble_eq_true rfl) rfl ?_
    refine mw_iload hG a204_100 rfl ?_
    refine mw_ifc_ne hG a204_101 (by omega) (fun z101 => ?_) (fun z101 => ?_)
    · refine mw_iload hG a204_126 rfl ?_
      refine mw_ifc_ne hG a204_127 (by omega) (fun z127 => ?_) (fun z127 => ?_)
      · refine mw_aload hG a204_134 rfl ?_
        refine mw_geti hG hV a204_135 rfl ?_
        refine mw_push hG a204_138 mw_c7 ?_
        refine mw_icmp_ne hG a204_140 (by omega) (by omega) (fun z140 => ?_) (fun z140 => ?_)
        · exact t147 _ _ _ _ _ _ _ _ hV (by omega) (by omega) (by omega) (by omega) (by omega) (by omega)
        · refine mw_aload hG a204_143 rfl ?_
          refine mw_vv0 hG hV a204_144 (mw_misplaced hen hV (by omega) (by omega)) rfl (by omega) fun h hq144 => ?_
          obtain ⟨fk144, fp144, hV, f144, e144⟩ := hq144
          have ho144 := (hs0).fk (fk2 := fk144) (by omega) (by omega)
          exact t147 _ _ _ _ _ _ _ _ hV (by omega) (by omega) (by omega) (by omega) (by omega) (by omega)
      · refine mw_iload hG a204_130 rfl ?_
        refine mw_ifc_eq hG a204_131 (by omega) (fun z131 => ?_) (fun z131 => ?_)
        · exact t147 _ _ _ _ _ _ _ _ hV (by omega) (by omega) (by omega) (by omega) (by omega) (by omega)
        · refine mw_aload hG a204_134 rfl ?_
          refine mw_geti hG hV a204_135 rfl ?_
          refine mw_push hG a204_138 mw_c7 ?_
          refine mw_icmp_ne hG a204_140 (by omega) (by omega) (fun z140 => ?_) (fun z140 => ?_)
          · exact t147 _ _ _ _ _ _ _ _ hV (by omega) (by omega) (by omega) (by omega) (by omega) (by omega)
          · refine mw_aload hG a204_143 rfl ?_
            refine mw_vv0 hG hV a204_144 (mw_misplaced hen hV (by omega) (by omega)) rfl (by omega) fun h hq144 => ?_
            obtain ⟨fk144, fp144, hV, f144, e144⟩ := hq144
            have ho144 := (hs0).fk (fk2 := fk144) (by omega) (by omega)
            exact t147 _ _ _ _ _ _ _ _ hV (by omega) (by omega) (by omega) (by omega) (by omega) (by omega)
    · refine mw_iload hG a204_104 rfl ?_
      refine mw_ifc_ne hG a204_106 (by omega) (fun z106 => ?_) (fun z106 => ?_)
      · refine mw_iload hG a204_121 rfl ?_
        refine mw_ifc_ne hG a204_123 (by omega) (fun z123 => ?_) (fun z123 => ?_)
        · refine mw_aload hG a204_143 rfl ?_
          refine mw_vv0 hG hV a204_144 (mw_misplaced hen hV (by omega) (by omega)) rfl (by omega) fun h hq144 => ?_
          obtain ⟨fk144, fp144, hV, f144, e144⟩ := hq144
          have ho144 := (hs0).fk (fk2 := fk144) (by omega) (by omega)
          exact t147 _ _ _ _ _ _ _ _ hV (by omega) (by omega) (by omega) (by omega) (by omega) (by omega)
        · refine mw_iload hG a204_126 rfl ?_
          refine mw_ifc_ne hG a204_127 (by omega) (fun z127 => ?_) (fun z127 => ?_)
          · refine mw_aload hG a204_134 rfl ?_
            refine mw_geti hG hV a204_135 rfl ?_
            refine mw_push hG a204_138 mw_c7 ?_
            refine mw_icmp_ne hG a204_140 (by omega) (by omega) (fun z140 => ?_) (fun z140 => ?_)
            · exact t147 _ _ _ _ _ _ _ _ hV (by omega) (by omega) (by omega) (by omega) (by omega) (by omega)
            · refine mw_aload hG a204_143 rfl ?_
              refine mw_vv0 hG hV a204_144 (mw_misplaced hen hV (by omega) (by omega)) rfl (by omega) fun h hq144 => ?_
              obtain ⟨fk144, fp144, hV, f144, e144⟩ := hq144
              have ho144 := (hs0).fk (fk2 := fk144) (by omega) (by omega)
              exact t147 _ _ _ _ _ _ _ _ hV (by omega) (by omega) (by omega) (by omega) (by omega) (by omega)
          · refine mw_iload hG a204_130 rfl ?_
            refine mw_ifc_eq hG a204_131 (by omega) (fun z131 => ?_) (fun z131 => ?_)
            · exact t147 _ _ _ _ _ _ _ _ hV (by omega) (by omega) (by omega) (by omega) (by omega) (by omega)
            · refine mw_aload hG a204_134 rfl ?_
              refine mw_geti hG hV a204_135 rfl ?_
              refine mw_push hG a204_138 mw_c7 ?_
              refine mw_icmp_ne hG a204_140 (by omega) (by omega) (fun z140 => ?_) (fun z140 => ?_)
              · exact t147 _ _ _ _ _ _ _ _ hV (by omega) (by omega) (by omega) (by omega) (by omega) (by omega)
              · refine mw_aload hG a204_143 rfl ?_
                refine mw_vv0 hG hV a204_144 (mw_misplaced hen hV (by omega) (by omega)) rfl (by omega) fun h hq144 => ?_
                obtain ⟨fk144, fp144, hV, f144, e144⟩ := hq144
                have ho144 := (hs0).fk (fk2 := fk144) (by omega) (by omega)
                exact t147 _ _ _ _ _ _ _ _ hV (by omega) (by omega) (by omega) (by omega) (by omega) (by omega)
      · refine mw_aload hG a204_109 rfl ?_
        refine mw_geti hG hV a204_110 rfl ?_
        refine mw_push hG a204_113 mw_c4 ?_
        refine mw_icmp_eq hG a204_114 (by omega) (by omega) (fun z114 => ?_) (fun z114 => ?_)
        · refine mw_iload hG a204_121 rfl ?_
          refine mw_ifc_ne hG a204_123 (by omega) (fun z123 => ?_) (fun z123 => ?_)
          · refine mw_aload hG a204_143 rfl ?_
            refine mw_vv0 hG hV a204_144 (mw_misplaced hen hV (by omega) (by omega)) rfl (by omega) fun h hq144 => ?_
            obtain ⟨fk144, fp144, hV, f144, e144⟩ := hq144
            have ho144 := (hs0).fk (fk2 := fk144) (by omega) (by omega)
            exact t147 _ _ _ _ _ _ _ _ hV (by omega) (by omega) (by omega) (by omega) (by omega) (by omega)
          · refine mw_iload hG a204_126 rfl ?_
            refine mw_ifc_ne hG a204_127 (by omega) (fun z127 => ?_) (fun z127 => ?_)
            · refine mw_aload hG a204_134 rfl ?_
              refine mw_geti hG hV a204_135 rfl ?_
              refine mw_push hG a204_138 mw_c7 ?_
              refine mw_icmp_ne hG a204_140 (by omega) (by omega) (fun z140 => ?_) (fun z140 => ?_)
              · exact t147 _ _ _ _ _ _ _ _ hV (by omega) (by omega) (by omega) (by omega) (by omega) (by omega)
              · refine mw_aload hG a204_143 rfl ?_
                refine mw_vv0 hG hV a204_144 (mw_misplaced hen hV (by omega) (by omega)) rfl (by omega) fun h hq144 => ?_
                obtain ⟨fk144, fp144, hV, f144, e144⟩ := hq144
                have ho144 := (hs0).fk (fk2 := fk144) (by omega) (by omega)
                exact t147 _ _ _ _ _ _ _ _ hV (by omega) (by omega) (by omega) (by omega) (by omega) (by omega)
            · refine mw_iload hG a204_130 rfl ?_
              refine mw_ifc_eq hG a204_131 (by omega) (fun z131 => ?_) (fun z131 => ?_)
              · exact t147 _ _ _ _ _ _ _ _ hV (by omega) (by omega) (by omega) (by omega) (by omega) (by omega)
              · refine mw_aload hG a204_134 rfl ?_
                refine mw_geti hG hV a204_135 rfl ?_
                refine mw_push hG a204_138 mw_c7 ?_
                refine mw_icmp_ne hG a204_140 (by omega) (by omega) (fun z140 => ?_) (fun z140 => ?_)
                · exact t147 _ _ _ _ _ _ _ _ hV (by omega) (by omega) (by omega) (by omega) (by omega) (by omega)
                · refine mw_aload hG a204_143 rfl ?_
                  refine mw_vv0 hG hV a204_144 (mw_misplaced hen hV (by omega) (by omega)) rfl (by omega) fun h hq144 => ?_
                  obtain ⟨fk144, fp144, hV, f144, e144⟩ := hq144
                  have ho144 := (hs0).fk (fk2 := fk144) (by omega) (by omega)
                  exact t147 _ _ _ _ _ _ _ _ hV (by omega) (by omega) (by omega) (by omega) (by omega) (by omega)
        · refine mw_iload hG a204_117 rfl ?_
          refine mw_ifc_eq hG a204_118 (by omega) (fun z118 => ?_) (fun z118 => ?_)
          · refine mw_aload hG a204_143 rfl ?_
            refine mw_vv0 hG hV a204_144 (mw_misplaced hen hV (by omega) (by omega)) rfl (by omega) fun h hq144 => ?_
            obtain ⟨fk144, fp144, hV, f144, e144⟩ := hq144
            have ho144 := (hs0).fk (fk2 := fk144) (by omega) (by omega)
            exact t147 _ _ _ _ _ _ _ _ hV (by omega) (by omega) (by omega) (by omega) (by omega) (by omega)
          · refine mw_iload hG a204_121 rfl ?_
            refine mw_ifc_ne hG a204_123 (by omega) (fun z123 => ?_) (fun z123 => ?_)
            · refine mw_aload hG a204_143 rfl ?_
              refine mw_vv0 hG hV a204_144 (mw_misplaced hen hV (by omega) (by omega)) rfl (by omega) fun h hq144 => ?_
              obtain ⟨fk144, fp144, hV, f144, e144⟩ := hq144
              have ho144 := (hs0).fk (fk2 := fk144) (by omega) (by omega)
              exact t147 _ _ _ _ _ _ _ _ hV (by omega) (by omega) (by omega) (by omega) (by omega) (by omega)
            · refine mw_iload hG a204_126 rfl ?_
              refine mw_ifc_ne hG a204_127 (by omega) (fun z127 => ?_) (fun z127 => ?_)
              · refine mw_aload hG a204_134 rfl ?_
                refine mw_geti hG hV a204_135 rfl ?_
                refine mw_push hG a204_138 mw_c7 ?_
                refine mw_icmp_ne hG a204_140 (by omega) (by omega) (fun z140 => ?_) (fun z140 => ?_)
                · exact t147 _ _ _ _ _ _ _ _ hV (by omega) (by omega) (by omega) (by omega) (by omega) (by omega)
                · refine mw_aload hG a204_143 rfl ?_
                  refine mw_vv0 hG hV a204_144 (mw_misplaced hen hV (by omega) (by omega)) rfl (by omega) fun h hq144 => ?_
                  obtain ⟨fk144, fp144, hV, f144, e144⟩ := hq144
                  have ho144 := (hs0).fk (fk2 := fk144) (by omega) (by omega)
                  exact t147 _ _ _ _ _ _ _ _ hV (by omega) (by omega) (by omega) (by omega) (by omega) (by omega)
              · refine mw_iload hG a204_130 rfl ?_
                refine mw_ifc_eq hG a204_131 (by omega) (fun z131 => ?_) (fun z131 => ?_)
                · exact t147 _ _ _ _ _ _ _ _ hV (by omega) (by omega) (by omega) (by omega) (by omega) (by omega)
                · refine mw_aload hG a204_134 rfl ?_
                  refine mw_geti hG hV a204_135 rfl ?_
                  refine mw_push hG a204_138 mw_c7 ?_
                  refine mw_icmp_ne hG a204_140 (by omega) (by omega) (fun z140 => ?_) (fun z140 => ?_)
                  · exact t147 _ _ _ _ _ _ _ _ hV (by omega) (by omega) (by omega) (by omega) (by omega) (by omega)
                  · refine mw_aload hG a204_143 rfl ?_
                    refine mw_vv0 hG hV a204_144 (mw_misplaced hen hV (by omega) (by omega)) rfl (by omega) fun h hq144 => ?_
                    obtain ⟨fk144, fp144, hV, f144, e144⟩ := hq144
                    have ho144 := (hs0).fk (fk2 := fk144) (by omega) (by omega)
                    exact t147 _ _ _ _ _ _ _ _ hV (by omega) (by omega) (by omega) (by omega) (by omega) (by omega)
  have t57 : ∀ (h : ev_H) (z nt : Int), mw_V h0 h (mw_o B fk a fp en tok num nm cs wi pi ui) R → (nt = 0 ∨ (nt = 1 ∧ tok = 3)) → G 57 [(2, 83, 0), mw_i z, mw_i nt, (9, 0, 0), (9, 0, 0), (9, 0, 0), (9, 0, 0)] [] E h := by
    intro h z nt hV hnt
    refine mw_aload hG a204_57 rfl ?_
    refine mw_push hG a204_58 mw_c40 ?_
    refine mw_vp1 hG hV a204_60 (mw_isSignHere hen hV hs0 (by omega)) rfl (by omega) fun y60 hy60 => ?_
    refine mw_istore hG a204_63 rfl (Nat.le_of_ble_eq_true rfl) rfl ?_
    refine mw_aload hG a204_64 rfl ?_
    refine mw_vp0 hG hV a204_65 (mw_wordHere hen hV hs0) rfl (by omega) fun y65 hy65 => ?_
    refine mw_istore hG a204_68 rfl (Nat.le_of_ble_eq_true rfl) rfl ?_
    refine mw_aload hG a204_70 rfl ?_
    refine mw_geta hG hV a204_71 rfl ?_
    refine mw_aload hG a204_74 rfl ?_
    refine mw_geti hG hV a204_75 rfl ?_
    refine mw_ald hG hV a204_78 rfl (by omega) ?_
    refine mw_push hG a204_79 mw_c60 ?_
    refine mw_icmp_eq hG a204_81 (by omega) (by omega) (fun z81 => ?_) (fun z81 => ?_)
    · refine mw_push hG a204_93 mw_c1 ?_
      refine mw_goto hG a204_94 ?_
      exact t98 _ _ _ _ _ _ _ hV (by omega) (by omega) (by omega) (by omega) (by omega)
    · refine mw_aload hG a204_84 rfl ?_
      refine mw_geti hG hV a204_85 rfl ?_
      refine mw_push hG a204_88 mw_c30 ?_
      refine mw_icmp_ne hG a204_90 (by omega) (by omega) (fun z90 => ?_) (fun z90 => ?_)
      · refine mw_push hG a204_97 mw_c0 ?_
        exact t98 _ _ _ _ _ _ _ hV (by omega) (by omega) (by omega) (by omega) (by omega)
      · refine mw_push hG a204_93 mw_c1 ?_
        refine mw_goto hG a204_94 ?_
        exact t98 _ _ _ _ _ _ _ hV (by omega) (by omega) (by omega) (by omega) (by omega)
  have t36 : ∀ (z : Int), (z = 0 ∨ z = 1) → G 36 [(2, 83, 0), (9, 0, 0), (9, 0, 0), (9, 0, 0), (9, 0, 0), (9, 0, 0), (9, 0, 0)] [mw_i z] E h := by
    intro z hz
    refine mw_istore hG a204_36 rfl (Nat.le_of_ble_eq_true rfl) rfl ?_
    refine mw_iload hG a204_37 rfl ?_
    refine mw_ifc_eq hG a204_38 (by omega) (fun z38 => ?_) (fun z38 => ?_)
    · refine mw_push hG a204_55 mw_c0 ?_
      refine mw_istore hG a204_56 rfl (Nat.le_of_ble_eq_true rfl) rfl ?_
      exact t57 _ _ _ hV (by omega)
    · refine mw_aload hG a204_41 rfl ?_
      refine mw_pushl hG a204_42 ?_
      refine mw_vp1 hG hV a204_45 (mw_isWord hen hV hs0 (by omega)) rfl (by omega) fun y45 hy45 => ?_
      refine mw_ifc_eq hG a204_48 (by omega) (fun z48 => ?_) (fun z48 => ?_)
      · refine mw_push hG a204_55 mw_c0 ?_
        refine mw_istore hG a204_56 rfl (Nat.le_of_ble_eq_true rfl) rfl ?_
        exact t57 _ _ _ hV (by omega)
      · refine mw_push hG a204_51 mw_c1 ?_
        refine mw_goto hG a204_52 ?_
        refine mw_istore hG a204_56 rfl (Nat.le_of_ble_eq_true rfl) rfl ?_
        exact t57 _ _ _ hV (by omega)
  refine mw_aload hG a204_0 rfl ?_
  refine mw_geta hG hV a204_1 rfl ?_
  refine mw_aload hG a204_4 rfl ?_
  refine mw_geti hG hV a204_5 rfl ?_
  refine mw_push hG a204_8 mw_c1 ?_
  refine mw_sub hG a204_9 ?_
  refine mw_ald hG hV a204_10 rfl (by omega) ?_
  refine mw_push hG a204_11 mw_c3 ?_
  refine mw_icmp_le hG a204_12 (by omega) (by omega) (fun z12 => ?_) (fun z12 => ?_)
  · refine mw_push hG a204_31 mw_c1 ?_
    refine mw_goto hG a204_32 ?_
    exact t36 _ (by omega)
  · refine mw_aload hG a204_15 rfl ?_
    refine mw_geta hG hV a204_16 rfl ?_
    refine mw_aload hG a204_19 rfl ?_
    refine mw_geti hG hV a204_20 rfl ?_
    refine mw_push hG a204_23 mw_c1 ?_
    refine mw_sub hG a204_24 ?_
    refine mw_ald hG hV a204_25 rfl (by omega) ?_
    refine mw_push hG a204_26 mw_c7 ?_
    refine mw_icmp_lt hG a204_28 (by omega) (by omega) (fun z28 => ?_) (fun z28 => ?_)
    · refine mw_push hG a204_35 mw_c0 ?_
      exact t36 _ (by omega)
    · refine mw_push hG a204_31 mw_c1 ?_
      refine mw_goto hG a204_32 ?_
      exact t36 _ (by omega)
set_option maxHeartbeats 4000000 in
set_option maxRecDepth 20000 in
theorem mw_behindUnit (hen : en_ok) {lc : Launch} {h0 h : ev_H} {E : e2_E} {B : Nat → Int} {fk a fp en tok num : Int} {nm : Nat} {cs wi pi ui : Int} {R : Nat → Int → Int} (hV : mw_V h0 h (mw_o B fk a fp en tok num nm cs wi pi ui) R) (hs : mw_ok (B 21) fk a en tok num nm) (hb : 0 ≤ B 13 ∧ B 13 ≤ 1) {R0 : Nat → Int → Int} {r : Int} {fr : Nat} (hE : mw_ZE R0 R (B 13) r fr) {q L : Nat} (hQ : mw_eQ R (B 13) fr cs wi pi ui 1 q L) (hk : fk = 0) : mw_Ci lc 4 207 [(2, 83, 0)] E h (fun z h' => ∃ R2 fk2 a2 fp2 en2 tok2 num2 nm2 cs2 wi2 pi2 ui2, mw_V h0 h' (mw_o B fk2 a2 fp2 en2 tok2 num2 nm2 cs2 wi2 pi2 ui2) R2 ∧ mw_ok (B 21) fk2 a2 en2 tok2 num2 nm2 ∧ mw_ZE R0 R2 (B 13) r fr ∧ ((z = 1 ∧ mw_eS R2 (B 13) fr cs2 wi2 pi2 ui2 0) ∨ (z = 0 ∧ mw_eS R2 (B 13) fr cs2 wi2 pi2 ui2 1) ∨ ((z = 0 ∨ z = 1) ∧ fk2 ≠ 0 ∧ mw_eS R2 (B 13) fr cs2 wi2 pi2 ui2 1)) ∧ a ≤ a2 ∧ (fk2 = 0 → a < a2 ∨ pi2 < pi)) := by
  refine mw_con (D := 3) (C := evd_207) (X := e2x_207) [] hen ei_207 ex2_207 (Nat.le_of_ble_eq_true rfl) fun d0 F G hd hF hG => ?_
  show G 0 [(2, 83, 0), (9, 0, 0)] [] E h
  have hs0 := hs
  obtain ⟨s1, s2, s3, s4, s5, s6, s7, s8, s9, s10, s11, s12, s13⟩ := hs
  obtain ⟨q1, q2, q3, q4, q5, q6, q7, q8, q9, q10, q11, q12⟩ := id hQ
  have hp : pi - 1 = (q : Int) := by omega
  have hr : 1 ≤ R 109 (pi - 1) ∧ R 109 (pi - 1) ≤ 8 := by
    rw [hp]
    have := q5.rng (Nat.le_refl q)
    omega
  have hU := hE.1.g92 (i := B 13) (by omega)
  have hfr : 560 * B 13 ≤ (fr : Int) := hE.2.2.2.2.2
  have hbq := mw_bc_le (R 109) q
  have h12 := q12 rfl
  have t104 : ∀ (q3 L3 : Nat) (h : ev_H) (R3 : Nat → Int → Int) (cs3 wi3 pi3 rk : Int), mw_V h0 h (mw_o B fk a fp en tok num nm cs3 wi3 pi3 ui) R3 → mw_eQ R3 (B 13) fr cs3 wi3 pi3 ui 1 q3 L3 → mw_ZE R0 R3 (B 13) r fr → pi3 ≤ pi → (rk = 0 ∨ (tok ≠ 0 ∧ (rk = 1 ∨ rk = 2 ∨ ((rk = 4 ∨ rk = 5 ∨ rk = 6) ∧ 37 ≤ mw_sg R3 (B 21) a ∧ mw_sg R3 (B 21) a ≤ 62)))) → (rk = 0 → 6 < R3 109 (pi3 - 1)) → G 104 [(2, 83, 0), mw_i rk] [] E h := by
    intro q3 L3 h R3 cs3 wi3 pi3 rk hV hQ3 hE3 hle hrk hx
    obtain ⟨p1, p2, p3, p4, p5, p6, p7, p8, p9, p10, p11, p12⟩ := id hQ3
    have hp3 : pi3 - 1 = (q3 : Int) := by omega
    have hr3 : 1 ≤ R3 109 (pi3 - 1) ∧ R3 109 (pi3 - 1) ≤ 8 ∧ (q3 = 0 → R3 109 (pi3 - 1) = 8) ∧ (R3 109 (pi3 - 1) = 8 → q3 = 0) := by
      rw [hp3]
      exact p5.rng (Nat.le_refl q3)
    have hU3 := hE3.1.g92 (i := B 13) (by omega)
    have hbq3 := mw_bc_le (R3 109) q3
    have h12 := p12 rfl
    refine mw_iload hG a207_104 rfl ?_
    refine mw_ifc_le hG a207_105 (by omega) (fun z105 => ?_) (fun z105 => ?_)
    · refine mw_aload hG a207_147 rfl ?_
      refine mw_dup hG a207_148 rfl ?_
      refine mw_geti hG hV a207_149 rfl ?_
      refine mw_push hG a207_152 mw_c1 ?_
      refine mw_sub hG a207_153 ?_
      refine mw_putf hG hV a207_154 (Nat.le_of_ble_eq_true rfl) mw_s59 fun h hV => ?_
      refine mw_aload hG a207_157 rfl ?_
      refine mw_geta hG hV a207_158 rfl ?_
      refine mw_aload hG a207_161 rfl ?_
      refine mw_geti hG hV a207_162 rfl ?_
      refine mw_ald hG hV a207_165 rfl (by omega) ?_
      refine mw_push hG a207_166 mw_c7 ?_
      refine mw_icmp_ne hG a207_168 (by omega) (by omega) (fun z168 => ?_) (fun z168 => ?_)
      · refine mw_push hG a207_191 mw_c0 ?_
        refine mw_iret hG a207_192 (Or.inr ⟨rfl, by omega⟩) (hF _ _ _ ⟨rfl, _, rfl, _, _, _, _, _, _, _, _, _, _, _, _, hV, hs0, hE3, Or.inr (Or.inl ⟨rfl, ?_⟩), by omega, by omega⟩)
        first | exact Or.inl ⟨by omega, by omega, by omega, by omega, by omega, L3, p6, p7, by omega⟩ | (obtain ⟨q4, rfl⟩ : ∃ q4, q3 = q4 + 1 := ⟨q3 - 1, by omega⟩; exact Or.inr ⟨q4, L3, hQ3.cls (by omega)⟩)
      · refine mw_aload hG a207_171 rfl ?_
        refine mw_dup hG a207_172 rfl ?_
        refine mw_geti hG hV a207_173 rfl ?_
        refine mw_push hG a207_176 mw_c1 ?_
        refine mw_sub hG a207_177 ?_
        refine mw_putf hG hV a207_178 (Nat.le_of_ble_eq_true rfl) mw_s58 fun h hV => ?_
        refine mw_aload hG a207_181 rfl ?_
        refine mw_aload hG a207_182 rfl ?_
        refine mw_push hG a207_183 mw_c41 ?_
        refine mw_vp1 hG hV a207_185 (mw_isSignHere hen hV hs0 (by omega)) rfl (by omega) fun y185 hy185 => ?_
        refine mw_vv1 hG hV a207_188 (mw_must hen hV hs0 (by omega)) rfl (by omega) fun h hq188 => ?_
        obtain ⟨fk188, a188, fp188, en188, tok188, num188, nm188, hV, ho188, f188, e188, d188, c188⟩ := hq188
        obtain ⟨o188a, o188b, o188c, o188d, o188e, o188f, o188g, o188h, o188i, o188j, o188k, o188l, o188m⟩ := id ho188
        refine mw_push hG a207_191 mw_c0 ?_
        refine mw_iret hG a207_192 (Or.inr ⟨rfl, by omega⟩) (hF _ _ _ ⟨rfl, _, rfl, _, _, _, _, _, _, _, _, _, _, _, _, hV, ho188, hE3, Or.inr (Or.inl ⟨rfl, ?_⟩), by omega, by omega⟩)
        first | exact Or.inl ⟨by omega, by omega, by omega, by omega, by omega, L3, p6, p7, by omega⟩ | (obtain ⟨q4, rfl⟩ : ∃ q4, q3 = q4 + 1 := ⟨q3 - 1, by omega⟩; exact Or.inr ⟨q4, L3, hQ3.cls (by omega)⟩)
    · refine mw_aload hG a207_108 rfl ?_
      refine mw_iload hG a207_109 rfl ?_
      refine mw_iload hG a207_110 rfl ?_
      refine mw_push hG a207_111 mw_c2 ?_
      refine mw_icmp_ne hG a207_112 (by omega) (by omega) (fun z112 => ?_) (fun z112 => ?_)
      · refine mw_iload hG a207_120 rfl ?_
        refine mw_push hG a207_121 mw_c1 ?_
        refine mw_icmp_ne hG a207_122 (by omega) (by omega) (fun z122 => ?_) (fun z122 => ?_)
        · refine mw_aload hG a207_130 rfl ?_
          refine mw_aload hG a207_131 rfl ?_
          refine mw_geti hG hV a207_132 rfl ?_
          refine mw_vp1 hG hV a207_135 (mw_sign hen hV (by omega) (by omega)) rfl (by omega) fun y135 hy135 => ?_
          have hr135 : -2147483648 ≤ y135 ∧ y135 < 2147483648 := by rw [hy135]; exact mw_sg_r _ _ _
          refine mw_vv2 hG hV a207_138 (mw_pushE hen hV (by omega)) rfl (by omega) fun h hV => ?_
          refine mw_aload hG a207_141 rfl ?_
          refine mw_vv0 hG hV a207_142 (mw_goOn hen hV (by omega)) rfl (by omega) fun h hq142 => ?_
          obtain ⟨a142, en142, tok142, num142, nm142, hV, ho142, f142⟩ := hq142
          obtain ⟨o142a, o142b, o142c, o142d, o142e, o142f, o142g, o142h, o142i, o142j, o142k, o142l, o142m⟩ := id ho142
          refine mw_push hG a207_145 mw_c1 ?_
          refine mw_iret hG a207_146 (Or.inr ⟨rfl, by omega⟩) (hF _ _ _ ⟨rfl, _, rfl, _, _, _, _, _, _, _, _, _, _, _, _, hV, ho142, hE3.psh, Or.inl ⟨rfl, Or.inr ⟨q3 + 1, L3, hQ3.opr (by omega)⟩⟩, by omega, by omega⟩)
        · refine mw_push hG a207_125 mw_c124 ?_
          refine mw_goto hG a207_127 ?_
          refine mw_vv2 hG hV a207_138 (mw_pushE hen hV (by omega)) rfl (by omega) fun h hV => ?_
          refine mw_aload hG a207_141 rfl ?_
          refine mw_vv0 hG hV a207_142 (mw_goOn hen hV (by omega)) rfl (by omega) fun h hq142 => ?_
          obtain ⟨a142, en142, tok142, num142, nm142, hV, ho142, f142⟩ := hq142
          obtain ⟨o142a, o142b, o142c, o142d, o142e, o142f, o142g, o142h, o142i, o142j, o142k, o142l, o142m⟩ := id ho142
          refine mw_push hG a207_145 mw_c1 ?_
          refine mw_iret hG a207_146 (Or.inr ⟨rfl, by omega⟩) (hF _ _ _ ⟨rfl, _, rfl, _, _, _, _, _, _, _, _, _, _, _, _, hV, ho142, hE3.psh, Or.inl ⟨rfl, Or.inr ⟨q3 + 1, L3, hQ3.opr (by omega)⟩⟩, by omega, by omega⟩)
      · refine mw_push hG a207_115 mw_c38 ?_
        refine mw_goto hG a207_117 ?_
        refine mw_vv2 hG hV a207_138 (mw_pushE hen hV (by omega)) rfl (by omega) fun h hV => ?_
        refine mw_aload hG a207_141 rfl ?_
        refine mw_vv0 hG hV a207_142 (mw_goOn hen hV (by omega)) rfl (by omega) fun h hq142 => ?_
        obtain ⟨a142, en142, tok142, num142, nm142, hV, ho142, f142⟩ := hq142
        obtain ⟨o142a, o142b, o142c, o142d, o142e, o142f, o142g, o142h, o142i, o142j, o142k, o142l, o142m⟩ := id ho142
        refine mw_push hG a207_145 mw_c1 ?_
        refine mw_iret hG a207_146 (Or.inr ⟨rfl, by omega⟩) (hF _ _ _ ⟨rfl, _, rfl, _, _, _, _, _, _, _, _, _, _, _, _, hV, ho142, hE3.psh, Or.inl ⟨rfl, Or.inr ⟨q3 + 1, L3, hQ3.opr (by omega)⟩⟩, by omega, by omega⟩)
  have l23 : ∀ (q3 L3 : Nat) (h : ev_H) (R3 : Nat → Int → Int) (cs3 wi3 pi3 rk : Int), mw_V h0 h (mw_o B fk a fp en tok num nm cs3 wi3 pi3 ui) R3 → mw_eQ R3 (B 13) fr cs3 wi3 pi3 ui 1 q3 L3 → mw_ZE R0 R3 (B 13) r fr → pi3 ≤ pi → (rk = 0 ∨ (tok ≠ 0 ∧ (rk = 1 ∨ rk = 2 ∨ ((rk = 4 ∨ rk = 5 ∨ rk = 6) ∧ 37 ≤ mw_sg R3 (B 21) a ∧ mw_sg R3 (B 21) a ≤ 62)))) → G 23 [(2, 83, 0), mw_i rk] [] E h := by
    intro q3
    induction q3 with
    | zero =>
      intro L3 h R3 cs3 wi3 pi3 rk hV hQ3 hE3 hle hrk
      obtain ⟨p1, p2, p3, p4, p5, p6, p7, p8, p9, p10, p11, p12⟩ := id hQ3
      have hp3 : pi3 - 1 = ((0 : Nat) : Int) := by omega
      have hr3 : 1 ≤ R3 109 (pi3 - 1) ∧ R3 109 (pi3 - 1) ≤ 8 ∧ ((0 : Nat) = 0 → R3 109 (pi3 - 1) = 8) ∧ (R3 109 (pi3 - 1) = 8 → (0 : Nat) = 0) := by
        rw [hp3]
        exact p5.rng (Nat.le_refl 0)
      have hU3 := hE3.1.g92 (i := B 13) (by omega)
      have hb0 := mw_bc_le (R3 109) 0
      have h12 := p12 rfl
      refine mw_aload hG a207_23 rfl ?_
      refine mw_geta hG hV a207_24 rfl ?_
      refine mw_aload hG a207_27 rfl ?_
      refine mw_geti hG hV a207_28 rfl ?_
      refine mw_push hG a207_31 mw_c1 ?_
      refine mw_sub hG a207_32 ?_
      refine mw_ald hG hV a207_33 rfl (by omega) ?_
      refine mw_push hG a207_34 mw_c6 ?_
      refine mw_icmp_gt hG a207_36 (by omega) (by omega) (fun z36 => ?_) (fun z36 => by exfalso; omega)
      exact t104 _ _ _ _ _ _ _ _ hV hQ3 hE3 hle hrk (by omega)
    | succ q3 ih =>
      intro L3 h R3 cs3 wi3 pi3 rk hV hQ3 hE3 hle hrk
      obtain ⟨p1, p2, p3, p4, p5, p6, p7, p8, p9, p10, p11, p12⟩ := id hQ3
      have hp3 : pi3 - 1 = ((q3 + 1 : Nat) : Int) := by omega
      have hr3 : 1 ≤ R3 109 (pi3 - 1) ∧ R3 109 (pi3 - 1) ≤ 8 ∧ (q3 + 1 = 0 → R3 109 (pi3 - 1) = 8) ∧ (R3 109 (pi3 - 1) = 8 → q3 + 1 = 0) := by
        rw [hp3]
        exact p5.rng (Nat.le_refl (q3 + 1))
      have hU3 := hE3.1.g92 (i := B 13) (by omega)
      have hbq3 := mw_bc_le (R3 109) (q3 + 1)
      have h12 := p12 rfl
      refine mw_aload hG a207_23 rfl ?_
      refine mw_geta hG hV a207_24 rfl ?_
      refine mw_aload hG a207_27 rfl ?_
      refine mw_geti hG hV a207_28 rfl ?_
      refine mw_push hG a207_31 mw_c1 ?_
      refine mw_sub hG a207_32 ?_
      refine mw_ald hG hV a207_33 rfl (by omega) ?_
      refine mw_push hG a207_34 mw_c6 ?_
      refine mw_icmp_gt hG a207_36 (by omega) (by omega) (fun z36 => ?_) (fun z36 => ?_)
      · exact t104 _ _ _ _ _ _ _ _ hV hQ3 hE3 hle hrk (by omega)
      · refine mw_aload hG a207_39 rfl ?_
        refine mw_geta hG hV a207_40 rfl ?_
        refine mw_aload hG a207_43 rfl ?_
        refine mw_geti hG hV a207_44 rfl ?_
        refine mw_push hG a207_47 mw_c1 ?_
        refine mw_sub hG a207_48 ?_
        refine mw_ald hG hV a207_49 rfl (by omega) ?_
        refine mw_iload hG a207_50 rfl ?_
        refine mw_icmp_lt hG a207_51 (by omega) (by omega) (fun z51 => ?_) (fun z51 => ?_)
        · exact t104 _ _ _ _ _ _ _ _ hV hQ3 hE3 hle hrk (by omega)
        · refine mw_aload hG a207_54 rfl ?_
          refine mw_dup hG a207_55 rfl ?_
          refine mw_geti hG hV a207_56 rfl ?_
          refine mw_push hG a207_59 mw_c1 ?_
          refine mw_sub hG a207_60 ?_
          refine mw_putf hG hV a207_61 (Nat.le_of_ble_eq_true rfl) mw_s59 fun h hV => ?_
          refine mw_aload hG a207_64 rfl ?_
          refine mw_geta hG hV a207_65 rfl ?_
          refine mw_aload hG a207_68 rfl ?_
          refine mw_geti hG hV a207_69 rfl ?_
          refine mw_ald hG hV a207_72 rfl (by omega) ?_
          refine mw_push hG a207_73 mw_c3 ?_
          refine mw_icmp_ne hG a207_74 (by omega) (by omega) (fun z74 => ?_) (fun z74 => ?_)
          · obtain ⟨g1, g2, g3⟩ := hQ3.pop (n := 0) (by omega)
            refine mw_aload hG a207_87 rfl ?_
            refine mw_aload hG a207_88 rfl ?_
            refine mw_geta hG hV a207_89 rfl ?_
            refine mw_aload hG a207_92 rfl ?_
            refine mw_geti hG hV a207_93 rfl ?_
            refine mw_ald hG hV a207_96 rfl (by omega) ?_
            refine mw_push hG a207_97 mw_c0 ?_
            refine mw_vv2 hG hV a207_98 (mw_emit hen hV (by omega)) rfl (by omega) fun h hV => ?_
            refine mw_goto hG a207_101 ?_
            first | rw [if_pos z74] at g3 | rw [if_neg z74] at g3
            exact ih _ _ _ _ _ _ _ hV g3 (hE3.emi hb (by omega) (by omega)) (by omega) hrk
          · refine mw_aload hG a207_77 rfl ?_
            refine mw_dup hG a207_78 rfl ?_
            refine mw_geti hG hV a207_79 rfl ?_
            refine mw_push hG a207_82 mw_c1 ?_
            refine mw_sub hG a207_83 ?_
            refine mw_putf hG hV a207_84 (Nat.le_of_ble_eq_true rfl) mw_s58 fun h hV => ?_
            obtain ⟨g1, g2, g3⟩ := hQ3.pop (n := 0) (by omega)
            refine mw_aload hG a207_87 rfl ?_
            refine mw_aload hG a207_88 rfl ?_
            refine mw_geta hG hV a207_89 rfl ?_
            refine mw_aload hG a207_92 rfl ?_
            refine mw_geti hG hV a207_93 rfl ?_
            refine mw_ald hG hV a207_96 rfl (by omega) ?_
            refine mw_push hG a207_97 mw_c0 ?_
            refine mw_vv2 hG hV a207_98 (mw_emit hen hV (by omega)) rfl (by omega) fun h hV => ?_
            refine mw_goto hG a207_101 ?_
            first | rw [if_pos z74] at g3 | rw [if_neg z74] at g3
            exact ih _ _ _ _ _ _ _ hV g3 (hE3.emi hb (by omega) (by omega)) (by omega) hrk
  refine mw_aload hG a207_0 rfl ?_
  refine mw_vp0 hG hV a207_1 (mw_rankHere hen hV hs0) rfl (by omega) fun y1 hy1 => ?_
  refine mw_istore hG a207_4 rfl (Nat.le_of_ble_eq_true rfl) rfl ?_
  refine mw_iload hG a207_5 rfl ?_
  refine mw_push hG a207_6 mw_c4 ?_
  refine mw_icmp_ne hG a207_7 (by omega) (by omega) (fun z7 => ?_) (fun z7 => ?_)
  · exact l23 _ _ _ _ _ _ _ _ hV hQ hE (by omega) hy1
  · refine mw_aload hG a207_10 rfl ?_
    refine mw_vp0 hG hV a207_11 (mw_isCompared hen hV q5 q1 (by omega)) rfl (by omega) fun y11 hy11 => ?_
    refine mw_ifc_eq hG a207_14 (by omega) (fun z14 => ?_) (fun z14 => ?_)
    · exact l23 _ _ _ _ _ _ _ _ hV hQ hE (by omega) hy1
    · refine mw_aload hG a207_17 rfl ?_
      refine mw_vv0 hG hV a207_18 (mw_misplaced hen hV (by omega) (by omega)) rfl (by omega) fun h hq18 => ?_
      obtain ⟨fk18, fp18, hV, f18, e18⟩ := hq18
      have ho18 := (hs0).fk (fk2 := fk18) (by omega) (by omega)
      refine mw_push hG a207_21 mw_c1 ?_
      refine mw_iret hG a207_22 (Or.inr ⟨rfl, by omega⟩) (hF _ _ _ ⟨rfl, _, rfl, _, _, _, _, _, _, _, _, _, _, _, _, hV, ho18, hE, Or.inr (Or.inr ⟨Or.inr rfl, by omega, Or.inr ⟨q, L, hQ⟩⟩), by omega, by omega⟩)
