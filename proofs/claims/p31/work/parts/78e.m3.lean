/-! THE REFERENCE'S MEADOW: must, numbers, words, names -/
set_option maxRecDepth 20000 in
theorem mw_must (hen : en_ok) {lc : Launch} {h0 h : ev_H} {E : e2_E} {B : Nat → Int} {fk a fp en tok num : Int} {nm : Nat} {cs wi pi ui : Int} {R : Nat → Int → Int} (hV : mw_V h0 h (mw_o B fk a fp en tok num nm cs wi pi ui) R) (hs : mw_ok (B 21) fk a en tok num nm) {is : Int} (his : is = 0 ∨ is = 1) : mw_Cv lc 3 181 [(2, 83, 0), mw_i is] E h (fun h' => ∃ fk2 a2 fp2 en2 tok2 num2 nm2, mw_V h0 h' (mw_o B fk2 a2 fp2 en2 tok2 num2 nm2 cs wi pi ui) R ∧ mw_ok (B 21) fk2 a2 en2 tok2 num2 nm2 ∧ a ≤ a2 ∧ en ≤ en2 ∧ (fk ≠ 0 → fk2 ≠ 0) ∧ (fk2 = 0 → fk = 0 ∧ is = 1 ∧ en ≤ a2)) := by
  refine mw_con (D := 2) (C := evd_181) (X := hx_181) [] hen ei_181 hxe_181 (Nat.le_of_ble_eq_true rfl) fun d F G hd hF hG => ?_
  show G 0 [(2, 83, 0), mw_i is] [] E h
  obtain ⟨s1, s2, s3, s4, s5, s6, s7, s8, s9, s10, s11, s12, s13⟩ := hs
  refine mw_aload hG a181_0 rfl ?_
  refine mw_vp0 hG hV a181_1 (mw_isGood hen hV (by omega)) rfl (by omega) fun y1 hy1 => ?_
  refine mw_ifc_ne hG a181_4 (by omega) (fun z4 => ?_) (fun z4 => ?_)
  · refine mw_iload hG a181_8 rfl ?_
    refine mw_ifc_eq hG a181_9 (by omega) (fun z9 => ?_) (fun z9 => ?_)
    · refine mw_aload hG a181_19 rfl ?_
      refine mw_vv0 hG hV a181_20 (mw_misplaced hen hV (by omega) (by omega)) rfl (by omega) fun h hq20 => ?_
      obtain ⟨fk20, fp20, hV, f20, e20⟩ := hq20
      refine mw_vret hG a181_23 (hF _ _ _ ⟨rfl, rfl, _, _, _, _, _, _, _, hV, ⟨by omega, by omega, by omega, by omega, by omega, by omega, by omega, by omega, by omega, by omega, by omega, by omega, by omega⟩, by omega, by omega, by omega, by omega⟩)
    · refine mw_aload hG a181_12 rfl ?_
      refine mw_vv0 hG hV a181_13 (mw_goOn hen hV (by omega)) rfl (by omega) fun h hq13 => ?_
      obtain ⟨a13, en13, tok13, num13, nm13, hV, ho13, f13⟩ := hq13
      obtain ⟨o13a, o13b, o13c, o13d, o13e, o13f, o13g, o13h, o13i, o13j, o13k, o13l, o13m⟩ := ho13
      refine mw_goto hG a181_16 ?_
      refine mw_vret hG a181_23 (hF _ _ _ ⟨rfl, rfl, _, _, _, _, _, _, _, hV, ⟨by omega, by omega, by omega, by omega, by omega, by omega, by omega, by omega, by omega, by omega, by omega, by omega, by omega⟩, by omega, by omega, by omega, by omega⟩)
  · refine mw_vret hG a181_7 (hF _ _ _ ⟨rfl, rfl, _, _, _, _, _, _, _, hV, ⟨by omega, by omega, by omega, by omega, by omega, by omega, by omega, by omega, by omega, by omega, by omega, by omega, by omega⟩, by omega, by omega, by omega, by omega⟩)
set_option maxRecDepth 20000 in
theorem mw_numeral (hen : en_ok) {lc : Launch} {h0 h : ev_H} {E : e2_E} {B : Nat → Int} {fk a fp en tok num : Int} {nm : Nat} {cs wi pi ui : Int} {R : Nat → Int → Int} (hV : mw_V h0 h (mw_o B fk a fp en tok num nm cs wi pi ui) R) (hs : mw_ok (B 21) fk a en tok num nm) {lo hi : Int} (hlo : -2147483648 ≤ lo ∧ lo ≤ hi ∧ hi < 2147483648) : mw_Ci lc 3 182 [(2, 83, 0), mw_i lo, mw_i hi] E h (fun z h' => ∃ fk2 a2 fp2 en2 tok2 num2 nm2, mw_V h0 h' (mw_o B fk2 a2 fp2 en2 tok2 num2 nm2 cs wi pi ui) R ∧ mw_ok (B 21) fk2 a2 en2 tok2 num2 nm2 ∧ a ≤ a2 ∧ en ≤ en2 ∧ (fk ≠ 0 → fk2 ≠ 0) ∧ (fk2 = 0 → fk = 0 ∧ en ≤ a2) ∧ lo ≤ z ∧ z ≤ hi) := by
  refine mw_con (D := 2) (C := evd_182) (X := hx_182) [] hen ei_182 hxe_182 (Nat.le_of_ble_eq_true rfl) fun d F G hd hF hG => ?_
  show G 0 [(2, 83, 0), mw_i lo, mw_i hi, (9, 0, 0)] [] E h
  obtain ⟨s1, s2, s3, s4, s5, s6, s7, s8, s9, s10, s11, s12, s13⟩ := hs
  have t53 : ∀ (h : ev_H) (fk2 fp2 : Int), mw_V h0 h (mw_o B fk2 a fp2 en tok num nm cs wi pi ui) R → 0 ≤ fk2 → fk2 ≤ 5 → fk = 0 → (fk2 = 0 → lo ≤ num ∧ num ≤ hi) → G 53 [(2, 83, 0), mw_i lo, mw_i hi, (9, 0, 0)] [] E h := by
    intro h fk2 fp2 hV p5 p6 g3 g4
    refine mw_aload hG a182_53 rfl ?_
    refine mw_geti hG hV a182_54 rfl ?_
    refine mw_istore hG a182_57 rfl (Nat.le_of_ble_eq_true rfl) rfl ?_
    refine mw_aload hG a182_58 rfl ?_
    refine mw_vp0 hG hV a182_59 (mw_isGood hen hV (by omega)) rfl (by omega) fun y59 hy59 => ?_
    refine mw_ifc_eq hG a182_62 (by omega) (fun z62 => ?_) (fun z62 => ?_)
    · refine mw_aload hG a182_69 rfl ?_
      refine mw_vp0 hG hV a182_70 (mw_isGood hen hV (by omega)) rfl (by omega) fun y70 hy70 => ?_
      refine mw_ifc_eq hG a182_73 (by omega) (fun z73 => ?_) (fun z73 => ?_)
      · refine mw_iload hG a182_80 rfl ?_
        refine mw_iret hG a182_81 (Or.inl rfl) (hF _ _ _ ⟨rfl, _, rfl, _, _, _, _, _, _, _, hV, ⟨by omega, by omega, by omega, by omega, by omega, by omega, by omega, by omega, by omega, by omega, by omega, by omega, by omega⟩, by omega, by omega, by omega, by omega, by omega, by omega⟩)
      · refine mw_iload hG a182_76 rfl ?_
        refine mw_goto hG a182_77 ?_
        refine mw_iret hG a182_81 (Or.inl rfl) (hF _ _ _ ⟨rfl, _, rfl, _, _, _, _, _, _, _, hV, ⟨by omega, by omega, by omega, by omega, by omega, by omega, by omega, by omega, by omega, by omega, by omega, by omega, by omega⟩, by omega, by omega, by omega, by omega, by omega, by omega⟩)
    · refine mw_aload hG a182_65 rfl ?_
      refine mw_vv0 hG hV a182_66 (mw_goOn hen hV (by omega)) rfl (by omega) fun h hq66 => ?_
      obtain ⟨a66, en66, tok66, num66, nm66, hV, ho66, f66⟩ := hq66
      obtain ⟨o66a, o66b, o66c, o66d, o66e, o66f, o66g, o66h, o66i, o66j, o66k, o66l, o66m⟩ := ho66
      refine mw_aload hG a182_69 rfl ?_
      refine mw_vp0 hG hV a182_70 (mw_isGood hen hV (by omega)) rfl (by omega) fun y70 hy70 => ?_
      refine mw_ifc_eq hG a182_73 (by omega) (fun z73 => ?_) (fun z73 => ?_)
      · refine mw_iload hG a182_80 rfl ?_
        refine mw_iret hG a182_81 (Or.inl rfl) (hF _ _ _ ⟨rfl, _, rfl, _, _, _, _, _, _, _, hV, ⟨by omega, by omega, by omega, by omega, by omega, by omega, by omega, by omega, by omega, by omega, by omega, by omega, by omega⟩, by omega, by omega, by omega, by omega, by omega, by omega⟩)
      · refine mw_iload hG a182_76 rfl ?_
        refine mw_goto hG a182_77 ?_
        refine mw_iret hG a182_81 (Or.inl rfl) (hF _ _ _ ⟨rfl, _, rfl, _, _, _, _, _, _, _, hV, ⟨by omega, by omega, by omega, by omega, by omega, by omega, by omega, by omega, by omega, by omega, by omega, by omega, by omega⟩, by omega, by omega, by omega, by omega, by omega, by omega⟩)
  have t21 : ∀ (h : ev_H) (fk2 fp2 : Int), mw_V h0 h (mw_o B fk2 a fp2 en tok num nm cs wi pi ui) R → 0 ≤ fk2 → fk2 ≤ 5 → fk = 0 → G 21 [(2, 83, 0), mw_i lo, mw_i hi, (9, 0, 0)] [] E h := by
    intro h fk2 fp2 hV p5 p6 g3
    refine mw_aload hG a182_21 rfl ?_
    refine mw_vp0 hG hV a182_22 (mw_isGood hen hV (by omega)) rfl (by omega) fun y22 hy22 => ?_
    refine mw_ifc_eq hG a182_25 (by omega) (fun z25 => ?_) (fun z25 => ?_)
    · exact t53 _ _ _ hV (by omega) (by omega) (by omega) (by omega)
    · refine mw_aload hG a182_28 rfl ?_
      refine mw_geti hG hV a182_29 rfl ?_
      refine mw_iload hG a182_32 rfl ?_
      refine mw_icmp_lt hG a182_33 (by omega) (by omega) (fun z33 => ?_) (fun z33 => ?_)
      · refine mw_aload hG a182_44 rfl ?_
        refine mw_push hG a182_45 mw_c4 ?_
        refine mw_aload hG a182_46 rfl ?_
        refine mw_geti hG hV a182_47 rfl ?_
        refine mw_vv2 hG hV a182_50 (mw_fails hen hV (by omega)) rfl (by omega) fun h hq50 => ?_
        obtain ⟨fk50, fp50, hV, f50, e50⟩ := hq50
        exact t53 _ _ _ hV (by omega) (by omega) (by omega) (by omega)
      · refine mw_aload hG a182_36 rfl ?_
        refine mw_geti hG hV a182_37 rfl ?_
        refine mw_iload hG a182_40 rfl ?_
        refine mw_icmp_le hG a182_41 (by omega) (by omega) (fun z41 => ?_) (fun z41 => ?_)
        · exact t53 _ _ _ hV (by omega) (by omega) (by omega) (by omega)
        · refine mw_aload hG a182_44 rfl ?_
          refine mw_push hG a182_45 mw_c4 ?_
          refine mw_aload hG a182_46 rfl ?_
          refine mw_geti hG hV a182_47 rfl ?_
          refine mw_vv2 hG hV a182_50 (mw_fails hen hV (by omega)) rfl (by omega) fun h hq50 => ?_
          obtain ⟨fk50, fp50, hV, f50, e50⟩ := hq50
          exact t53 _ _ _ hV (by omega) (by omega) (by omega) (by omega)
  refine mw_aload hG a182_0 rfl ?_
  refine mw_vp0 hG hV a182_1 (mw_isGood hen hV (by omega)) rfl (by omega) fun y1 hy1 => ?_
  refine mw_ifc_ne hG a182_4 (by omega) (fun z4 => ?_) (fun z4 => ?_)
  · refine mw_aload hG a182_9 rfl ?_
    refine mw_geti hG hV a182_10 rfl ?_
    refine mw_push hG a182_13 mw_c4 ?_
    refine mw_icmp_eq hG a182_14 (by omega) (by omega) (fun z14 => ?_) (fun z14 => ?_)
    · exact t21 _ _ _ hV (by omega) (by omega) (by omega)
    · refine mw_aload hG a182_17 rfl ?_
      refine mw_vv0 hG hV a182_18 (mw_misplaced hen hV (by omega) (by omega)) rfl (by omega) fun h hq18 => ?_
      obtain ⟨fk18, fp18, hV, f18, e18⟩ := hq18
      exact t21 _ _ _ hV (by omega) (by omega) (by omega)
  · refine mw_iload hG a182_7 rfl ?_
    refine mw_iret hG a182_8 (Or.inl rfl) (hF _ _ _ ⟨rfl, _, rfl, _, _, _, _, _, _, _, hV, ⟨by omega, by omega, by omega, by omega, by omega, by omega, by omega, by omega, by omega, by omega, by omega, by omega, by omega⟩, by omega, by omega, by omega, by omega, by omega, by omega⟩)
set_option maxRecDepth 20000 in
theorem mw_after (hen : en_ok) {lc : Launch} {h0 h : ev_H} {E : e2_E} {B : Nat → Int} {fk a fp en tok num : Int} {nm : Nat} {cs wi pi ui : Int} {R : Nat → Int → Int} (hV : mw_V h0 h (mw_o B fk a fp en tok num nm cs wi pi ui) R) (hs : mw_ok (B 21) fk a en tok num nm) {u : Nat} (hu : u < 18446744073709551616) {lo hi : Int} (hlo : -2147483648 ≤ lo ∧ lo ≤ hi ∧ hi < 2147483648) : mw_Ci lc 4 183 [(2, 83, 0), (4, u, 0), mw_i lo, mw_i hi] E h (fun z h' => ∃ fk2 a2 fp2 en2 tok2 num2 nm2, mw_V h0 h' (mw_o B fk2 a2 fp2 en2 tok2 num2 nm2 cs wi pi ui) R ∧ mw_ok (B 21) fk2 a2 en2 tok2 num2 nm2 ∧ a ≤ a2 ∧ en ≤ en2 ∧ (fk ≠ 0 → fk2 ≠ 0) ∧ lo ≤ z ∧ z ≤ hi) := by
  refine mw_con (D := 3) (C := evd_183) (X := hx_183) [] hen ei_183 hxe_183 (Nat.le_of_ble_eq_true rfl) fun d F G hd hF hG => ?_
  show G 0 [(2, 83, 0), (4, u, 0), (9, 0, 0), mw_i lo, mw_i hi] [] E h
  obtain ⟨s1, s2, s3, s4, s5, s6, s7, s8, s9, s10, s11, s12, s13⟩ := hs
  refine mw_aload hG a183_0 rfl ?_
  refine mw_aload hG a183_1 rfl ?_
  refine mw_lload hG a183_2 rfl rfl ?_
  refine mw_vp1 hG hV a183_3 (mw_isWord hen hV ⟨by omega, by omega, by omega, by omega, by omega, by omega, by omega, by omega, by omega, by omega, by omega, by omega, by omega⟩ (by omega)) rfl (by omega) fun y3 hy3 => ?_
  refine mw_vv1 hG hV a183_6 (mw_must hen hV ⟨by omega, by omega, by omega, by omega, by omega, by omega, by omega, by omega, by omega, by omega, by omega, by omega, by omega⟩ (by omega)) rfl (by omega) fun h hq6 => ?_
  obtain ⟨fk6, a6, fp6, en6, tok6, num6, nm6, hV, ho6, f6, e6, d6, c6⟩ := hq6
  obtain ⟨o6a, o6b, o6c, o6d, o6e, o6f, o6g, o6h, o6i, o6j, o6k, o6l, o6m⟩ := ho6
  refine mw_aload hG a183_9 rfl ?_
  refine mw_iload hG a183_10 rfl ?_
  refine mw_iload hG a183_11 rfl ?_
  refine mw_vi2 hG hV a183_13 (mw_numeral hen hV ⟨by omega, by omega, by omega, by omega, by omega, by omega, by omega, by omega, by omega, by omega, by omega, by omega, by omega⟩ (by omega)) rfl (by omega) fun v13 h hq13 => ?_
  obtain ⟨fk13, a13, fp13, en13, tok13, num13, nm13, hV, ho13, f13, e13, d13, c13, l13, u13⟩ := hq13
  obtain ⟨o13a, o13b, o13c, o13d, o13e, o13f, o13g, o13h, o13i, o13j, o13k, o13l, o13m⟩ := ho13
  refine mw_iret hG a183_16 (Or.inl rfl) (hF _ _ _ ⟨rfl, _, rfl, _, _, _, _, _, _, _, hV, ⟨by omega, by omega, by omega, by omega, by omega, by omega, by omega, by omega, by omega, by omega, by omega, by omega, by omega⟩, by omega, by omega, by omega, by omega, by omega⟩)
set_option maxRecDepth 20000 in
theorem mw_signed (hen : en_ok) {lc : Launch} {h0 h : ev_H} {E : e2_E} {B : Nat → Int} {fk a fp en tok num : Int} {nm : Nat} {cs wi pi ui : Int} {R : Nat → Int → Int} (hV : mw_V h0 h (mw_o B fk a fp en tok num nm cs wi pi ui) R) (hs : mw_ok (B 21) fk a en tok num nm) : mw_Ci lc 3 184 [(2, 83, 0)] E h (fun z h' => ∃ fk2 a2 fp2 en2 tok2 num2 nm2, mw_V h0 h' (mw_o B fk2 a2 fp2 en2 tok2 num2 nm2 cs wi pi ui) R ∧ mw_ok (B 21) fk2 a2 en2 tok2 num2 nm2 ∧ a ≤ a2 ∧ en ≤ en2 ∧ (fk ≠ 0 → fk2 ≠ 0)) := by
  refine mw_con (D := 2) (C := evd_184) (X := hx_184) [] hen ei_184 hxe_184 (Nat.le_of_ble_eq_true rfl) fun d F G hd hF hG => ?_
  show G 0 [(2, 83, 0), (9, 0, 0), (9, 0, 0), (9, 0, 0)] [] E h
  obtain ⟨s1, s2, s3, s4, s5, s6, s7, s8, s9, s10, s11, s12, s13⟩ := hs
  have t92 : ∀ (h : ev_H) (fk2 a2 fp2 en2 tok2 num2 : Int) (nm2 : Nat) (m v : Int), mw_V h0 h (mw_o B fk2 a2 fp2 en2 tok2 num2 nm2 cs wi pi ui) R → mw_ok (B 21) fk2 a2 en2 tok2 num2 nm2 → a ≤ a2 → en ≤ en2 → (fk ≠ 0 → fk2 ≠ 0) → (m = 0 ∨ m = 1) → G 92 [(2, 83, 0), mw_i a, mw_i m, mw_i v] [] E h := by
    intro h fk2 a2 fp2 en2 tok2 num2 nm2 m v hV ho g1 g2 g3 hm
    obtain ⟨p1, p2, p3, p4, p5, p6, p7, p8, p9, p10, p11, p12, p13⟩ := ho
    refine mw_aload hG a184_92 rfl ?_
    refine mw_vp0 hG hV a184_93 (mw_isGood hen hV (by omega)) rfl (by omega) fun y93 hy93 => ?_
    refine mw_ifc_ne hG a184_96 (by omega) (fun z96 => ?_) (fun z96 => ?_)
    · refine mw_iload hG a184_103 rfl ?_
      refine mw_ifc_eq hG a184_104 (by omega) (fun z104 => ?_) (fun z104 => ?_)
      · refine mw_iload hG a184_112 rfl ?_
        refine mw_iret hG a184_113 (Or.inl rfl) (hF _ _ _ ⟨rfl, _, rfl, _, _, _, _, _, _, _, hV, ⟨by omega, by omega, by omega, by omega, by omega, by omega, by omega, by omega, by omega, by omega, by omega, by omega, by omega⟩, by omega, by omega, by omega⟩)
      · refine mw_iload hG a184_107 rfl ?_
        refine mw_neg hG a184_108 ?_
        refine mw_goto hG a184_109 ?_
        refine mw_iret hG a184_113 (Or.inl rfl) (hF _ _ _ ⟨rfl, _, rfl, _, _, _, _, _, _, _, hV, ⟨by omega, by omega, by omega, by omega, by omega, by omega, by omega, by omega, by omega, by omega, by omega, by omega, by omega⟩, by omega, by omega, by omega⟩)
    · refine mw_push hG a184_99 mw_c0 ?_
      refine mw_goto hG a184_100 ?_
      refine mw_iret hG a184_113 (Or.inl rfl) (hF _ _ _ ⟨rfl, _, rfl, _, _, _, _, _, _, _, hV, ⟨by omega, by omega, by omega, by omega, by omega, by omega, by omega, by omega, by omega, by omega, by omega, by omega, by omega⟩, by omega, by omega, by omega⟩)
  have t76 : ∀ (h : ev_H) (fk2 a2 fp2 en2 tok2 num2 : Int) (nm2 : Nat) (m : Int), mw_V h0 h (mw_o B fk2 a2 fp2 en2 tok2 num2 nm2 cs wi pi ui) R → mw_ok (B 21) fk2 a2 en2 tok2 num2 nm2 → a ≤ a2 → en ≤ en2 → (fk ≠ 0 → fk2 ≠ 0) → (m = 0 ∨ m = 1) → G 76 [(2, 83, 0), mw_i a, mw_i m, (9, 0, 0)] [] E h := by
    intro h fk2 a2 fp2 en2 tok2 num2 nm2 m hV ho g1 g2 g3 hm
    obtain ⟨p1, p2, p3, p4, p5, p6, p7, p8, p9, p10, p11, p12, p13⟩ := ho
    refine mw_aload hG a184_76 rfl ?_
    refine mw_geti hG hV a184_77 rfl ?_
    refine mw_istore hG a184_80 rfl (Nat.le_of_ble_eq_true rfl) rfl ?_
    refine mw_aload hG a184_81 rfl ?_
    refine mw_vp0 hG hV a184_82 (mw_isGood hen hV (by omega)) rfl (by omega) fun y82 hy82 => ?_
    refine mw_ifc_eq hG a184_85 (by omega) (fun z85 => ?_) (fun z85 => ?_)
    · exact t92 _ _ _ _ _ _ _ _ _ _ hV ⟨by omega, by omega, by omega, by omega, by omega, by omega, by omega, by omega, by omega, by omega, by omega, by omega, by omega⟩ (by omega) (by omega) (by omega) (by omega)
    · refine mw_aload hG a184_88 rfl ?_
      refine mw_vv0 hG hV a184_89 (mw_goOn hen hV (by omega)) rfl (by omega) fun h hq89 => ?_
      obtain ⟨a89, en89, tok89, num89, nm89, hV, ho89, f89⟩ := hq89
      obtain ⟨o89a, o89b, o89c, o89d, o89e, o89f, o89g, o89h, o89i, o89j, o89k, o89l, o89m⟩ := ho89
      exact t92 _ _ _ _ _ _ _ _ _ _ hV ⟨by omega, by omega, by omega, by omega, by omega, by omega, by omega, by omega, by omega, by omega, by omega, by omega, by omega⟩ (by omega) (by omega) (by omega) (by omega)
  have t54 : ∀ (h : ev_H) (fk2 a2 fp2 en2 tok2 num2 : Int) (nm2 : Nat) (m : Int), mw_V h0 h (mw_o B fk2 a2 fp2 en2 tok2 num2 nm2 cs wi pi ui) R → mw_ok (B 21) fk2 a2 en2 tok2 num2 nm2 → a ≤ a2 → en ≤ en2 → (fk ≠ 0 → fk2 ≠ 0) → (m = 0 ∨ m = 1) → G 54 [(2, 83, 0), mw_i a, mw_i m, (9, 0, 0)] [] E h := by
    intro h fk2 a2 fp2 en2 tok2 num2 nm2 m hV ho g1 g2 g3 hm
    obtain ⟨p1, p2, p3, p4, p5, p6, p7, p8, p9, p10, p11, p12, p13⟩ := ho
    refine mw_aload hG a184_54 rfl ?_
    refine mw_vp0 hG hV a184_55 (mw_isGood hen hV (by omega)) rfl (by omega) fun y55 hy55 => ?_
    refine mw_ifc_eq hG a184_58 (by omega) (fun z58 => ?_) (fun z58 => ?_)
    · exact t76 _ _ _ _ _ _ _ _ _ hV ⟨by omega, by omega, by omega, by omega, by omega, by omega, by omega, by omega, by omega, by omega, by omega, by omega, by omega⟩ (by omega) (by omega) (by omega) (by omega)
    · refine mw_aload hG a184_61 rfl ?_
      refine mw_geti hG hV a184_62 rfl ?_
      refine mw_push hG a184_65 mw_c9 ?_
      refine mw_icmp_le hG a184_67 (by omega) (by omega) (fun z67 => ?_) (fun z67 => ?_)
      · exact t76 _ _ _ _ _ _ _ _ _ hV ⟨by omega, by omega, by omega, by omega, by omega, by omega, by omega, by omega, by omega, by omega, by omega, by omega, by omega⟩ (by omega) (by omega) (by omega) (by omega)
      · refine mw_aload hG a184_70 rfl ?_
        refine mw_push hG a184_71 mw_c4 ?_
        refine mw_iload hG a184_72 rfl ?_
        refine mw_vv2 hG hV a184_73 (mw_fails hen hV (by omega)) rfl (by omega) fun h hq73 => ?_
        obtain ⟨fk73, fp73, hV, f73, e73⟩ := hq73
        exact t76 _ _ _ _ _ _ _ _ _ hV ⟨by omega, by omega, by omega, by omega, by omega, by omega, by omega, by omega, by omega, by omega, by omega, by omega, by omega⟩ (by omega) (by omega) (by omega) (by omega)
  have t35 : ∀ (h : ev_H) (fk2 a2 fp2 en2 tok2 num2 : Int) (nm2 : Nat) (m : Int), mw_V h0 h (mw_o B fk2 a2 fp2 en2 tok2 num2 nm2 cs wi pi ui) R → mw_ok (B 21) fk2 a2 en2 tok2 num2 nm2 → a ≤ a2 → en ≤ en2 → (fk ≠ 0 → fk2 ≠ 0) → (m = 0 ∨ m = 1) → G 35 [(2, 83, 0), mw_i a, mw_i m, (9, 0, 0)] [] E h := by
    intro h fk2 a2 fp2 en2 tok2 num2 nm2 m hV ho g1 g2 g3 hm
    obtain ⟨p1, p2, p3, p4, p5, p6, p7, p8, p9, p10, p11, p12, p13⟩ := ho
    refine mw_aload hG a184_35 rfl ?_
    refine mw_vp0 hG hV a184_36 (mw_isGood hen hV (by omega)) rfl (by omega) fun y36 hy36 => ?_
    refine mw_ifc_eq hG a184_39 (by omega) (fun z39 => ?_) (fun z39 => ?_)
    · exact t54 _ _ _ _ _ _ _ _ _ hV ⟨by omega, by omega, by omega, by omega, by omega, by omega, by omega, by omega, by omega, by omega, by omega, by omega, by omega⟩ (by omega) (by omega) (by omega) (by omega)
    · refine mw_aload hG a184_42 rfl ?_
      refine mw_geti hG hV a184_43 rfl ?_
      refine mw_push hG a184_46 mw_c4 ?_
      refine mw_icmp_eq hG a184_47 (by omega) (by omega) (fun z47 => ?_) (fun z47 => ?_)
      · exact t54 _ _ _ _ _ _ _ _ _ hV ⟨by omega, by omega, by omega, by omega, by omega, by omega, by omega, by omega, by omega, by omega, by omega, by omega, by omega⟩ (by omega) (by omega) (by omega) (by omega)
      · refine mw_aload hG a184_50 rfl ?_
        refine mw_vv0 hG hV a184_51 (mw_misplaced hen hV (by omega) (by omega)) rfl (by omega) fun h hq51 => ?_
        obtain ⟨fk51, fp51, hV, f51, e51⟩ := hq51
        exact t54 _ _ _ _ _ _ _ _ _ hV ⟨by omega, by omega, by omega, by omega, by omega, by omega, by omega, by omega, by omega, by omega, by omega, by omega, by omega⟩ (by omega) (by omega) (by omega) (by omega)
  refine mw_aload hG a184_0 rfl ?_
  refine mw_geti hG hV a184_1 rfl ?_
  refine mw_istore hG a184_4 rfl (Nat.le_of_ble_eq_true rfl) rfl ?_
  refine mw_aload hG a184_5 rfl ?_
  refine mw_vp0 hG hV a184_6 (mw_isGood hen hV (by omega)) rfl (by omega) fun y6 hy6 => ?_
  refine mw_ifc_eq hG a184_9 (by omega) (fun z9 => ?_) (fun z9 => ?_)
  · refine mw_push hG a184_25 mw_c0 ?_
    refine mw_istore hG a184_26 rfl (Nat.le_of_ble_eq_true rfl) rfl ?_
    refine mw_iload hG a184_27 rfl ?_
    refine mw_ifc_eq hG a184_28 (by omega) (fun z28 => ?_) (fun z28 => ?_)
    · exact t35 _ _ _ _ _ _ _ _ _ hV ⟨by omega, by omega, by omega, by omega, by omega, by omega, by omega, by omega, by omega, by omega, by omega, by omega, by omega⟩ (by omega) (by omega) (by omega) (by omega)
    · refine mw_aload hG a184_31 rfl ?_
      refine mw_vv0 hG hV a184_32 (mw_goOn hen hV (by omega)) rfl (by omega) fun h hq32 => ?_
      obtain ⟨a32, en32, tok32, num32, nm32, hV, ho32, f32⟩ := hq32
      obtain ⟨o32a, o32b, o32c, o32d, o32e, o32f, o32g, o32h, o32i, o32j, o32k, o32l, o32m⟩ := ho32
      exact t35 _ _ _ _ _ _ _ _ _ hV ⟨by omega, by omega, by omega, by omega, by omega, by omega, by omega, by omega, by omega, by omega, by omega, by omega, by omega⟩ (by omega) (by omega) (by omega) (by omega)
  · refine mw_aload hG a184_12 rfl ?_
    refine mw_push hG a184_13 mw_c45 ?_
    refine mw_vp1 hG hV a184_15 (mw_isSignHere hen hV ⟨by omega, by omega, by omega, by omega, by omega, by omega, by omega, by omega, by omega, by omega, by omega, by omega, by omega⟩ (by omega)) rfl (by omega) fun y15 hy15 => ?_
    refine mw_ifc_eq hG a184_18 (by omega) (fun z18 => ?_) (fun z18 => ?_)
    · refine mw_push hG a184_25 mw_c0 ?_
      refine mw_istore hG a184_26 rfl (Nat.le_of_ble_eq_true rfl) rfl ?_
      refine mw_iload hG a184_27 rfl ?_
      refine mw_ifc_eq hG a184_28 (by omega) (fun z28 => ?_) (fun z28 => ?_)
      · exact t35 _ _ _ _ _ _ _ _ _ hV ⟨by omega, by omega, by omega, by omega, by omega, by omega, by omega, by omega, by omega, by omega, by omega, by omega, by omega⟩ (by omega) (by omega) (by omega) (by omega)
      · refine mw_aload hG a184_31 rfl ?_
        refine mw_vv0 hG hV a184_32 (mw_goOn hen hV (by omega)) rfl (by omega) fun h hq32 => ?_
        obtain ⟨a32, en32, tok32, num32, nm32, hV, ho32, f32⟩ := hq32
        obtain ⟨o32a, o32b, o32c, o32d, o32e, o32f, o32g, o32h, o32i, o32j, o32k, o32l, o32m⟩ := ho32
        exact t35 _ _ _ _ _ _ _ _ _ hV ⟨by omega, by omega, by omega, by omega, by omega, by omega, by omega, by omega, by omega, by omega, by omega, by omega, by omega⟩ (by omega) (by omega) (by omega) (by omega)
    · refine mw_push hG a184_21 mw_c1 ?_
      refine mw_goto hG a184_22 ?_
      refine mw_istore hG a184_26 rfl (Nat.le_of_ble_eq_true rfl) rfl ?_
      refine mw_iload hG a184_27 rfl ?_
      refine mw_ifc_eq hG a184_28 (by omega) (fun z28 => ?_) (fun z28 => ?_)
      · exact t35 _ _ _ _ _ _ _ _ _ hV ⟨by omega, by omega, by omega, by omega, by omega, by omega, by omega, by omega, by omega, by omega, by omega, by omega, by omega⟩ (by omega) (by omega) (by omega) (by omega)
      · refine mw_aload hG a184_31 rfl ?_
        refine mw_vv0 hG hV a184_32 (mw_goOn hen hV (by omega)) rfl (by omega) fun h hq32 => ?_
        obtain ⟨a32, en32, tok32, num32, nm32, hV, ho32, f32⟩ := hq32
        obtain ⟨o32a, o32b, o32c, o32d, o32e, o32f, o32g, o32h, o32i, o32j, o32k, o32l, o32m⟩ := ho32
        exact t35 _ _ _ _ _ _ _ _ _ hV ⟨by omega, by omega, by omega, by omega, by omega, by omega, by omega, by omega, by omega, by omega, by omega, by omega, by omega⟩ (by omega) (by omega) (by omega) (by omega)
set_option maxRecDepth 20000 in
theorem mw_fresh (hen : en_ok) {lc : Launch} {h0 h : ev_H} {E : e2_E} {B : Nat → Int} {fk a fp en tok num : Int} {nm : Nat} {cs wi pi ui : Int} {R : Nat → Int → Int} (hV : mw_V h0 h (mw_o B fk a fp en tok num nm cs wi pi ui) R) (hs : mw_ok (B 21) fk a en tok num nm) {its : Int} (hi : -2147483648 ≤ its ∧ its < 2147483648) : mw_Cl lc 3 191 [(2, 83, 0), mw_i its] E h (fun _ h' => ∃ fk2 a2 fp2 en2 tok2 num2 nm2, mw_V h0 h' (mw_o B fk2 a2 fp2 en2 tok2 num2 nm2 cs wi pi ui) R ∧ mw_ok (B 21) fk2 a2 en2 tok2 num2 nm2 ∧ a ≤ a2 ∧ en ≤ en2 ∧ (fk ≠ 0 → fk2 ≠ 0)) := by
  refine mw_con (D := 2) (C := evd_191) (X := hx_191) [] hen ei_191 hxe_191 (Nat.le_of_ble_eq_true rfl) fun d F G hd hF hG => ?_
  show G 0 [(2, 83, 0), mw_i its, (9, 0, 0), (9, 0, 0)] [] E h
  obtain ⟨s1, s2, s3, s4, s5, s6, s7, s8, s9, s10, s11, s12, s13⟩ := hs
  have t37 : ∀ (h : ev_H) (fk2 a2 fp2 en2 tok2 num2 : Int) (nm2 : Nat), mw_V h0 h (mw_o B fk2 a2 fp2 en2 tok2 num2 nm2 cs wi pi ui) R → mw_ok (B 21) fk2 a2 en2 tok2 num2 nm2 → a ≤ a2 → en ≤ en2 → (fk ≠ 0 → fk2 ≠ 0) → G 37 [(2, 83, 0), mw_i its, (9, 0, 0), (9, 0, 0)] [] E h := by
    intro h fk2 a2 fp2 en2 tok2 num2 nm2 hV ho g1 g2 g3
    obtain ⟨p1, p2, p3, p4, p5, p6, p7, p8, p9, p10, p11, p12, p13⟩ := ho
    refine mw_aload hG a191_37 rfl ?_
    refine mw_getl hG hV a191_38 rfl ?_
    refine mw_lstore hG a191_41 rfl (Nat.le_of_ble_eq_true rfl) rfl ?_
    refine mw_aload hG a191_42 rfl ?_
    refine mw_vp0 hG hV a191_43 (mw_isGood hen hV (by omega)) rfl (by omega) fun y43 hy43 => ?_
    refine mw_ifc_eq hG a191_46 (by omega) (fun z46 => ?_) (fun z46 => ?_)
    · refine mw_lload hG a191_53 rfl rfl ?_
      refine mw_lret hG a191_54 (hF _ _ _ ⟨rfl, _, by omega, rfl, _, _, _, _, _, _, _, hV, ⟨by omega, by omega, by omega, by omega, by omega, by omega, by omega, by omega, by omega, by omega, by omega, by omega, by omega⟩, by omega, by omega, by omega⟩)
    · refine mw_aload hG a191_49 rfl ?_
      refine mw_vv0 hG hV a191_50 (mw_goOn hen hV (by omega)) rfl (by omega) fun h hq50 => ?_
      obtain ⟨a50, en50, tok50, num50, nm50, hV, ho50, f50⟩ := hq50
      obtain ⟨o50a, o50b, o50c, o50d, o50e, o50f, o50g, o50h, o50i, o50j, o50k, o50l, o50m⟩ := ho50
      refine mw_lload hG a191_53 rfl rfl ?_
      refine mw_lret hG a191_54 (hF _ _ _ ⟨rfl, _, by omega, rfl, _, _, _, _, _, _, _, hV, ⟨by omega, by omega, by omega, by omega, by omega, by omega, by omega, by omega, by omega, by omega, by omega, by omega, by omega⟩, by omega, by omega, by omega⟩)
  refine mw_aload hG a191_0 rfl ?_
  refine mw_vp0 hG hV a191_1 (mw_isGood hen hV (by omega)) rfl (by omega) fun y1 hy1 => ?_
  refine mw_ifc_ne hG a191_4 (by omega) (fun z4 => ?_) (fun z4 => ?_)
  · refine mw_aload hG a191_9 rfl ?_
    refine mw_geti hG hV a191_10 rfl ?_
    refine mw_push hG a191_13 mw_c2 ?_
    refine mw_icmp_eq hG a191_14 (by omega) (by omega) (fun z14 => ?_) (fun z14 => ?_)
    · refine mw_iload hG a191_24 rfl ?_
      refine mw_ifc_lt hG a191_25 (by omega) (fun z25 => ?_) (fun z25 => ?_)
      · exact t37 _ _ _ _ _ _ _ _ hV ⟨by omega, by omega, by omega, by omega, by omega, by omega, by omega, by omega, by omega, by omega, by omega, by omega, by omega⟩ (by omega) (by omega) (by omega)
      · refine mw_aload hG a191_28 rfl ?_
        refine mw_push hG a191_29 mw_c3 ?_
        refine mw_aload hG a191_30 rfl ?_
        refine mw_geti hG hV a191_31 rfl ?_
        refine mw_vv2 hG hV a191_34 (mw_fails hen hV (by omega)) rfl (by omega) fun h hq34 => ?_
        obtain ⟨fk34, fp34, hV, f34, e34⟩ := hq34
        exact t37 _ _ _ _ _ _ _ _ hV ⟨by omega, by omega, by omega, by omega, by omega, by omega, by omega, by omega, by omega, by omega, by omega, by omega, by omega⟩ (by omega) (by omega) (by omega)
    · refine mw_aload hG a191_17 rfl ?_
      refine mw_vv0 hG hV a191_18 (mw_misplaced hen hV (by omega) (by omega)) rfl (by omega) fun h hq18 => ?_
      obtain ⟨fk18, fp18, hV, f18, e18⟩ := hq18
      refine mw_goto hG a191_21 ?_
      exact t37 _ _ _ _ _ _ _ _ hV ⟨by omega, by omega, by omega, by omega, by omega, by omega, by omega, by omega, by omega, by omega, by omega, by omega, by omega⟩ (by omega) (by omega) (by omega)
  · refine mw_pushl hG a191_7 ?_
    refine mw_lret hG a191_8 (hF _ _ _ ⟨rfl, _, by omega, rfl, _, _, _, _, _, _, _, hV, ⟨by omega, by omega, by omega, by omega, by omega, by omega, by omega, by omega, by omega, by omega, by omega, by omega, by omega⟩, by omega, by omega, by omega⟩)
set_option maxRecDepth 20000 in
theorem mw_known (hen : en_ok) {lc : Launch} {h0 h : ev_H} {E : e2_E} {B : Nat → Int} {fk a fp en tok num : Int} {nm : Nat} {cs wi pi ui : Int} {R : Nat → Int → Int} (hV : mw_V h0 h (mw_o B fk a fp en tok num nm cs wi pi ui) R) (hs : mw_ok (B 21) fk a en tok num nm) {its : Int} (hi : -2147483648 ≤ its ∧ its < 2147483648) : mw_Ci lc 3 192 [(2, 83, 0), mw_i its] E h (fun z h' => ∃ fk2 a2 fp2 en2 tok2 num2 nm2, mw_V h0 h' (mw_o B fk2 a2 fp2 en2 tok2 num2 nm2 cs wi pi ui) R ∧ mw_ok (B 21) fk2 a2 en2 tok2 num2 nm2 ∧ a ≤ a2 ∧ en ≤ en2 ∧ (fk ≠ 0 → fk2 ≠ 0) ∧ (z = 0 ∨ (0 ≤ its ∧ z = its))) := by
  refine mw_con (D := 2) (C := evd_192) (X := hx_192) [] hen ei_192 hxe_192 (Nat.le_of_ble_eq_true rfl) fun d F G hd hF hG => ?_
  show G 0 [(2, 83, 0), mw_i its] [] E h
  obtain ⟨s1, s2, s3, s4, s5, s6, s7, s8, s9, s10, s11, s12, s13⟩ := hs
  have t44 : ∀ (h : ev_H) (fk2 a2 fp2 en2 tok2 num2 : Int) (nm2 : Nat), mw_V h0 h (mw_o B fk2 a2 fp2 en2 tok2 num2 nm2 cs wi pi ui) R → mw_ok (B 21) fk2 a2 en2 tok2 num2 nm2 → a ≤ a2 → en ≤ en2 → (fk ≠ 0 → fk2 ≠ 0) → G 44 [(2, 83, 0), mw_i its] [] E h := by
    intro h fk2 a2 fp2 en2 tok2 num2 nm2 hV ho g1 g2 g3
    obtain ⟨p1, p2, p3, p4, p5, p6, p7, p8, p9, p10, p11, p12, p13⟩ := ho
    refine mw_iload hG a192_44 rfl ?_
    refine mw_ifc_ge hG a192_45 (by omega) (fun z45 => ?_) (fun z45 => ?_)
    · refine mw_iload hG a192_52 rfl ?_
      refine mw_iret hG a192_53 (Or.inl rfl) (hF _ _ _ ⟨rfl, _, rfl, _, _, _, _, _, _, _, hV, ⟨by omega, by omega, by omega, by omega, by omega, by omega, by omega, by omega, by omega, by omega, by omega, by omega, by omega⟩, by omega, by omega, by omega, by omega⟩)
    · refine mw_push hG a192_48 mw_c0 ?_
      refine mw_goto hG a192_49 ?_
      refine mw_iret hG a192_53 (Or.inl rfl) (hF _ _ _ ⟨rfl, _, rfl, _, _, _, _, _, _, _, hV, ⟨by omega, by omega, by omega, by omega, by omega, by omega, by omega, by omega, by omega, by omega, by omega, by omega, by omega⟩, by omega, by omega, by omega, by omega⟩)
  refine mw_aload hG a192_0 rfl ?_
  refine mw_vp0 hG hV a192_1 (mw_isGood hen hV (by omega)) rfl (by omega) fun y1 hy1 => ?_
  refine mw_ifc_ne hG a192_4 (by omega) (fun z4 => ?_) (fun z4 => ?_)
  · refine mw_aload hG a192_9 rfl ?_
    refine mw_geti hG hV a192_10 rfl ?_
    refine mw_push hG a192_13 mw_c2 ?_
    refine mw_icmp_eq hG a192_14 (by omega) (by omega) (fun z14 => ?_) (fun z14 => ?_)
    · refine mw_iload hG a192_24 rfl ?_
      refine mw_ifc_ge hG a192_25 (by omega) (fun z25 => ?_) (fun z25 => ?_)
      · refine mw_aload hG a192_40 rfl ?_
        refine mw_vv0 hG hV a192_41 (mw_goOn hen hV (by omega)) rfl (by omega) fun h hq41 => ?_
        obtain ⟨a41, en41, tok41, num41, nm41, hV, ho41, f41⟩ := hq41
        obtain ⟨o41a, o41b, o41c, o41d, o41e, o41f, o41g, o41h, o41i, o41j, o41k, o41l, o41m⟩ := ho41
        exact t44 _ _ _ _ _ _ _ _ hV ⟨by omega, by omega, by omega, by omega, by omega, by omega, by omega, by omega, by omega, by omega, by omega, by omega, by omega⟩ (by omega) (by omega) (by omega)
      · refine mw_aload hG a192_28 rfl ?_
        refine mw_push hG a192_29 mw_c5 ?_
        refine mw_aload hG a192_30 rfl ?_
        refine mw_geti hG hV a192_31 rfl ?_
        refine mw_vv2 hG hV a192_34 (mw_fails hen hV (by omega)) rfl (by omega) fun h hq34 => ?_
        obtain ⟨fk34, fp34, hV, f34, e34⟩ := hq34
        refine mw_goto hG a192_37 ?_
        exact t44 _ _ _ _ _ _ _ _ hV ⟨by omega, by omega, by omega, by omega, by omega, by omega, by omega, by omega, by omega, by omega, by omega, by omega, by omega⟩ (by omega) (by omega) (by omega)
    · refine mw_aload hG a192_17 rfl ?_
      refine mw_vv0 hG hV a192_18 (mw_misplaced hen hV (by omega) (by omega)) rfl (by omega) fun h hq18 => ?_
      obtain ⟨fk18, fp18, hV, f18, e18⟩ := hq18
      refine mw_goto hG a192_21 ?_
      exact t44 _ _ _ _ _ _ _ _ hV ⟨by omega, by omega, by omega, by omega, by omega, by omega, by omega, by omega, by omega, by omega, by omega, by omega, by omega⟩ (by omega) (by omega) (by omega)
  · refine mw_push hG a192_7 mw_c0 ?_
    refine mw_iret hG a192_8 (Or.inl rfl) (hF _ _ _ ⟨rfl, _, rfl, _, _, _, _, _, _, _, hV, ⟨by omega, by omega, by omega, by omega, by omega, by omega, by omega, by omega, by omega, by omega, by omega, by omega, by omega⟩, by omega, by omega, by omega, by omega⟩)
set_option maxRecDepth 20000 in
theorem mw_isFull (hen : en_ok) {lc : Launch} {h0 h : ev_H} {E : e2_E} {B : Nat → Int} {fk a fp en tok num : Int} {nm : Nat} {cs wi pi ui : Int} {R : Nat → Int → Int} (hV : mw_V h0 h (mw_o B fk a fp en tok num nm cs wi pi ui) R) (hs : mw_ok (B 21) fk a en tok num nm) (hb : 0 ≤ B 13 ∧ B 13 ≤ 1) (ht : tok = 3) (h87 : 0 ≤ R 87 (B 13) ∧ R 87 (B 13) ≤ 4) (h88 : 0 ≤ R 88 (B 13) ∧ R 88 (B 13) ≤ 8) (h89 : -2147483648 ≤ R 89 (B 13) ∧ R 89 (B 13) < 2147483648) (h90 : -2147483648 ≤ R 90 (B 13) ∧ R 90 (B 13) < 2147483648) (h94 : -2147483648 ≤ R 94 (B 13) ∧ R 94 (B 13) < 2147483648) (h103 : 0 ≤ R 103 (B 13) ∧ R 103 (B 13) ≤ 1) (h104 : 0 ≤ R 104 (2 * B 13) ∧ R 104 (2 * B 13) ≤ 1) (h105 : 0 ≤ R 104 (2 * B 13 + 1) ∧ R 104 (2 * B 13 + 1) ≤ 1) : mw_Cp lc 2 186 [(2, 83, 0)] E h (fun z => (z = 0 ∨ z = 1) ∧ (z = 0 → (nm = 499967946343 → R 87 (B 13) < 4) ∧ (nm = 1936287598 → R 88 (B 13) < 8))) := by
  refine mw_con (D := 1) (C := evd_186) (X := hx_186) [] hen ei_186 hxe_186 (Nat.le_of_ble_eq_true rfl) fun d F G hd hF hG => ?_
  show G 0 [(2, 83, 0)] [] E h
  obtain ⟨s1, s2, s3, s4, s5, s6, s7, s8, s9, s10, s11, s12, s13⟩ := hs
  refine mw_aload hG a186_0 rfl ?_
  refine mw_pushl hG a186_1 ?_
  refine mw_vp1 hG hV a186_4 (mw_isWord hen hV ⟨by omega, by omega, by omega, by omega, by omega, by omega, by omega, by omega, by omega, by omega, by omega, by omega, by omega⟩ (by omega)) rfl (by omega) fun y4 hy4 => ?_
  refine mw_ifc_eq hG a186_7 (by omega) (fun z7 => ?_) (fun z7 => ?_)
  · refine mw_aload hG a186_28 rfl ?_
    refine mw_pushl hG a186_29 ?_
    refine mw_vp1 hG hV a186_32 (mw_isWord hen hV ⟨by omega, by omega, by omega, by omega, by omega, by omega, by omega, by omega, by omega, by omega, by omega, by omega, by omega⟩ (by omega)) rfl (by omega) fun y32 hy32 => ?_
    refine mw_ifc_eq hG a186_35 (by omega) (fun z35 => ?_) (fun z35 => ?_)
    · refine mw_aload hG a186_57 rfl ?_
      refine mw_pushl hG a186_58 ?_
      refine mw_vp1 hG hV a186_61 (mw_isWord hen hV ⟨by omega, by omega, by omega, by omega, by omega, by omega, by omega, by omega, by omega, by omega, by omega, by omega, by omega⟩ (by omega)) rfl (by omega) fun y61 hy61 => ?_
      refine mw_ifc_eq hG a186_64 (by omega) (fun z64 => ?_) (fun z64 => ?_)
      · refine mw_aload hG a186_87 rfl ?_
        refine mw_pushl hG a186_88 ?_
        refine mw_vp1 hG hV a186_91 (mw_isWord hen hV ⟨by omega, by omega, by omega, by omega, by omega, by omega, by omega, by omega, by omega, by omega, by omega, by omega, by omega⟩ (by omega)) rfl (by omega) fun y91 hy91 => ?_
        refine mw_ifc_eq hG a186_94 (by omega) (fun z94 => ?_) (fun z94 => ?_)
        · refine mw_aload hG a186_117 rfl ?_
          refine mw_pushl hG a186_118 ?_
          refine mw_vp1 hG hV a186_121 (mw_isWord hen hV ⟨by omega, by omega, by omega, by omega, by omega, by omega, by omega, by omega, by omega, by omega, by omega, by omega, by omega⟩ (by omega)) rfl (by omega) fun y121 hy121 => ?_
          refine mw_ifc_eq hG a186_124 (by omega) (fun z124 => ?_) (fun z124 => ?_)
          · refine mw_aload hG a186_146 rfl ?_
            refine mw_pushl hG a186_147 ?_
            refine mw_vp1 hG hV a186_150 (mw_isWord hen hV ⟨by omega, by omega, by omega, by omega, by omega, by omega, by omega, by omega, by omega, by omega, by omega, by omega, by omega⟩ (by omega)) rfl (by omega) fun y150 hy150 => ?_
            refine mw_ifc_eq hG a186_153 (by omega) (fun z153 => ?_) (fun z153 => ?_)
            · refine mw_aload hG a186_168 rfl ?_
              refine mw_pushl hG a186_169 ?_
              refine mw_vp1 hG hV a186_172 (mw_isWord hen hV ⟨by omega, by omega, by omega, by omega, by omega, by omega, by omega, by omega, by omega, by omega, by omega, by omega, by omega⟩ (by omega)) rfl (by omega) fun y172 hy172 => ?_
              refine mw_ifc_eq hG a186_175 (by omega) (fun z175 => ?_) (fun z175 => ?_)
              · refine mw_aload hG a186_192 rfl ?_
                refine mw_pushl hG a186_193 ?_
                refine mw_vp1 hG hV a186_196 (mw_isWord hen hV ⟨by omega, by omega, by omega, by omega, by omega, by omega, by omega, by omega, by omega, by omega, by omega, by omega, by omega⟩ (by omega)) rfl (by omega) fun y196 hy196 => ?_
                refine mw_ifc_eq hG a186_199 (by omega) (fun z199 => ?_) (fun z199 => ?_)
                · refine mw_push hG a186_214 mw_c1 ?_
                  refine mw_goto hG a186_215 ?_
                  refine mw_iret hG a186_219 (Or.inr ⟨rfl, by omega⟩) (hF _ _ _ ⟨rfl, rfl, _, rfl, by omega, by omega⟩)
                · refine mw_aload hG a186_202 rfl ?_
                  refine mw_geta hG hV a186_203 rfl ?_
                  refine mw_aload hG a186_206 rfl ?_
                  refine mw_geti hG hV a186_207 rfl ?_
                  refine mw_bald hG hV a186_210 rfl (by decide) (by omega) ?_
                  refine mw_ifc_eq hG a186_211 (by omega) (fun z211 => ?_) (fun z211 => ?_)
                  · refine mw_push hG a186_218 mw_c0 ?_
                    refine mw_iret hG a186_219 (Or.inr ⟨rfl, by omega⟩) (hF _ _ _ ⟨rfl, rfl, _, rfl, by omega, by omega⟩)
                  · refine mw_push hG a186_214 mw_c1 ?_
                    refine mw_goto hG a186_215 ?_
                    refine mw_iret hG a186_219 (Or.inr ⟨rfl, by omega⟩) (hF _ _ _ ⟨rfl, rfl, _, rfl, by omega, by omega⟩)
              · refine mw_aload hG a186_178 rfl ?_
                refine mw_geta hG hV a186_179 rfl ?_
                refine mw_push hG a186_182 mw_c2 ?_
                refine mw_aload hG a186_183 rfl ?_
                refine mw_geti hG hV a186_184 rfl ?_
                refine mw_mul hG a186_187 ?_
                refine mw_push hG a186_188 mw_c1 ?_
                refine mw_add hG a186_189 ?_
                refine mw_bald hG hV a186_190 rfl (by decide) (by omega) ?_
                refine mw_iret hG a186_191 (Or.inr ⟨rfl, by omega⟩) (hF _ _ _ ⟨rfl, rfl, _, rfl, by omega, by omega⟩)
            · refine mw_aload hG a186_156 rfl ?_
              refine mw_geta hG hV a186_157 rfl ?_
              refine mw_push hG a186_160 mw_c2 ?_
              refine mw_aload hG a186_161 rfl ?_
              refine mw_geti hG hV a186_162 rfl ?_
              refine mw_mul hG a186_165 ?_
              refine mw_bald hG hV a186_166 rfl (by decide) (by omega) ?_
              refine mw_iret hG a186_167 (Or.inr ⟨rfl, by omega⟩) (hF _ _ _ ⟨rfl, rfl, _, rfl, by omega, by omega⟩)
          · refine mw_aload hG a186_127 rfl ?_
            refine mw_geta hG hV a186_128 rfl ?_
            refine mw_aload hG a186_131 rfl ?_
            refine mw_geti hG hV a186_132 rfl ?_
            refine mw_ald hG hV a186_135 rfl (by omega) ?_
            refine mw_push hG a186_136 mw_c4 ?_
            refine mw_icmp_ne hG a186_137 (by omega) (by omega) (fun z137 => ?_) (fun z137 => ?_)
            · refine mw_push hG a186_144 mw_c0 ?_
              refine mw_iret hG a186_145 (Or.inr ⟨rfl, by omega⟩) (hF _ _ _ ⟨rfl, rfl, _, rfl, by omega, by omega⟩)
            · refine mw_push hG a186_140 mw_c1 ?_
              refine mw_goto hG a186_141 ?_
              refine mw_iret hG a186_145 (Or.inr ⟨rfl, by omega⟩) (hF _ _ _ ⟨rfl, rfl, _, rfl, by omega, by omega⟩)
        · refine mw_aload hG a186_97 rfl ?_
          refine mw_geta hG hV a186_98 rfl ?_
          refine mw_aload hG a186_101 rfl ?_
          refine mw_geti hG hV a186_102 rfl ?_
          refine mw_ald hG hV a186_105 rfl (by omega) ?_
          refine mw_push hG a186_106 mw_c10 ?_
          refine mw_icmp_ne hG a186_108 (by omega) (by omega) (fun z108 => ?_) (fun z108 => ?_)
          · refine mw_push hG a186_115 mw_c0 ?_
            refine mw_iret hG a186_116 (Or.inr ⟨rfl, by omega⟩) (hF _ _ _ ⟨rfl, rfl, _, rfl, by omega, by omega⟩)
          · refine mw_push hG a186_111 mw_c1 ?_
            refine mw_goto hG a186_112 ?_
            refine mw_iret hG a186_116 (Or.inr ⟨rfl, by omega⟩) (hF _ _ _ ⟨rfl, rfl, _, rfl, by omega, by omega⟩)
      · refine mw_aload hG a186_67 rfl ?_
        refine mw_geta hG hV a186_68 rfl ?_
        refine mw_aload hG a186_71 rfl ?_
        refine mw_geti hG hV a186_72 rfl ?_
        refine mw_ald hG hV a186_75 rfl (by omega) ?_
        refine mw_push hG a186_76 mw_c8 ?_
        refine mw_icmp_ne hG a186_78 (by omega) (by omega) (fun z78 => ?_) (fun z78 => ?_)
        · refine mw_push hG a186_85 mw_c0 ?_
          refine mw_iret hG a186_86 (Or.inr ⟨rfl, by omega⟩) (hF _ _ _ ⟨rfl, rfl, _, rfl, by omega, by omega⟩)
        · refine mw_push hG a186_81 mw_c1 ?_
          refine mw_goto hG a186_82 ?_
          refine mw_iret hG a186_86 (Or.inr ⟨rfl, by omega⟩) (hF _ _ _ ⟨rfl, rfl, _, rfl, by omega, by omega⟩)
    · refine mw_aload hG a186_38 rfl ?_
      refine mw_geta hG hV a186_39 rfl ?_
      refine mw_aload hG a186_42 rfl ?_
      refine mw_geti hG hV a186_43 rfl ?_
      refine mw_ald hG hV a186_46 rfl (by omega) ?_
      refine mw_push hG a186_47 mw_c4 ?_
      refine mw_icmp_ne hG a186_48 (by omega) (by omega) (fun z48 => ?_) (fun z48 => ?_)
      · refine mw_push hG a186_55 mw_c0 ?_
        refine mw_iret hG a186_56 (Or.inr ⟨rfl, by omega⟩) (hF _ _ _ ⟨rfl, rfl, _, rfl, by omega, by omega⟩)
      · refine mw_push hG a186_51 mw_c1 ?_
        refine mw_goto hG a186_52 ?_
        refine mw_iret hG a186_56 (Or.inr ⟨rfl, by omega⟩) (hF _ _ _ ⟨rfl, rfl, _, rfl, by omega, by omega⟩)
  · refine mw_aload hG a186_10 rfl ?_
    refine mw_geta hG hV a186_11 rfl ?_
    refine mw_aload hG a186_14 rfl ?_
    refine mw_geti hG hV a186_15 rfl ?_
    refine mw_ald hG hV a186_18 rfl (by omega) ?_
    refine mw_ifc_le hG a186_19 (by omega) (fun z19 => ?_) (fun z19 => ?_)
    · refine mw_push hG a186_26 mw_c0 ?_
      refine mw_iret hG a186_27 (Or.inr ⟨rfl, by omega⟩) (hF _ _ _ ⟨rfl, rfl, _, rfl, by omega, by omega⟩)
    · refine mw_push hG a186_22 mw_c1 ?_
      refine mw_goto hG a186_23 ?_
      refine mw_iret hG a186_27 (Or.inr ⟨rfl, by omega⟩) (hF _ _ _ ⟨rfl, rfl, _, rfl, by omega, by omega⟩)
set_option maxRecDepth 20000 in
theorem mw_here (hen : en_ok) {lc : Launch} {h0 h : ev_H} {E : e2_E} {B : Nat → Int} {fk a fp en tok num : Int} {nm : Nat} {cs wi pi ui : Int} {R : Nat → Int → Int} (hV : mw_V h0 h (mw_o B fk a fp en tok num nm cs wi pi ui) R) (hs : mw_ok (B 21) fk a en tok num nm) {c N : Nat} {fr n : Int} (hk : c = 105 ∧ N = 8 ∨ c = 106 ∧ N = 16) (hf : 0 ≤ fr ∧ 0 ≤ n ∧ fr + n ≤ N) : mw_Cp lc 1 188 [(2, 83, 0), (2, c, 0), mw_i fr, mw_i n] E h (fun z => -1 ≤ z ∧ (0 ≤ z → z < n)) := by
  refine mw_con (D := 0) (C := evd_188) (X := hx_188) [] hen ei_188 hxe_188 (Nat.le_of_ble_eq_true rfl) fun d F G hd hF hG => ?_
  show G 0 [(2, 83, 0), (2, c, 0), mw_i fr, mw_i n, (9, 0, 0)] [] E h
  obtain ⟨s1, s2, s3, s4, s5, s6, s7, s8, s9, s10, s11, s12, s13⟩ := hs
  have l3 : ∀ (m : Nat) (i : Int), 0 ≤ i → i + m = n → G 3 [(2, 83, 0), (2, c, 0), mw_i fr, mw_i n, mw_i i] [] E h := by
    intro m
    induction m with
    | zero =>
      intro i h1 h2
      refine mw_iload hG a188_3 rfl ?_
      refine mw_iload hG a188_5 rfl ?_
      refine mw_icmp_ge hG a188_6 (by omega) (by omega) (fun z6 => ?_) (fun z6 => by exfalso; omega)
      refine mw_push hG a188_40 mw_cm1 ?_
      refine mw_iret hG a188_41 (Or.inl rfl) (hF _ _ _ ⟨rfl, rfl, _, rfl, by omega⟩)
    | succ m ih =>
      intro i h1 h2
      refine mw_iload hG a188_3 rfl ?_
      refine mw_iload hG a188_5 rfl ?_
      refine mw_icmp_ge hG a188_6 (by omega) (by omega) (fun z6 => by exfalso; omega) (fun z6 => ?_)
      refine mw_aload hG a188_9 rfl ?_
      refine mw_geti hG hV a188_10 rfl ?_
      refine mw_push hG a188_13 mw_c2 ?_
      refine mw_icmp_ne hG a188_14 (by omega) (by omega) (fun z14 => ?_) (fun z14 => ?_)
      · refine mw_iinc hG a188_34 mw_c1 rfl rfl rfl ?_
        refine mw_goto hG a188_37 ?_
        exact ih _ (by omega) (by omega)
      · refine mw_aload hG a188_17 rfl ?_
        refine mw_iload hG a188_18 rfl ?_
        refine mw_iload hG a188_19 rfl ?_
        refine mw_add hG a188_21 ?_
        refine mw_lald hG hV a188_22 hk (by omega) fun x22 hx22 => ?_
        refine mw_aload hG a188_23 rfl ?_
        refine mw_getl hG hV a188_24 rfl ?_
        refine mw_lcmp hG a188_27 (by omega) (by omega) fun y27 hy27 hz27 => ?_
        refine mw_ifc_ne hG a188_28 (by omega) (fun z28 => ?_) (fun z28 => ?_)
        · refine mw_iinc hG a188_34 mw_c1 rfl rfl rfl ?_
          refine mw_goto hG a188_37 ?_
          exact ih _ (by omega) (by omega)
        · refine mw_iload hG a188_31 rfl ?_
          refine mw_iret hG a188_33 (Or.inl rfl) (hF _ _ _ ⟨rfl, rfl, _, rfl, by omega⟩)
  refine mw_push hG a188_0 mw_c0 ?_
  refine mw_istore hG a188_1 rfl (Nat.le_of_ble_eq_true rfl) rfl ?_
  exact l3 n.toNat _ (by omega) (by omega)
set_option maxRecDepth 20000 in
theorem mw_thingHere (hen : en_ok) {lc : Launch} {h0 h : ev_H} {E : e2_E} {B : Nat → Int} {fk a fp en tok num : Int} {nm : Nat} {cs wi pi ui : Int} {R : Nat → Int → Int} (hV : mw_V h0 h (mw_o B fk a fp en tok num nm cs wi pi ui) R) (hs : mw_ok (B 21) fk a en tok num nm) (hb : 0 ≤ B 13 ∧ B 13 ≤ 1) (h8 : 0 ≤ R 87 (B 13) ∧ R 87 (B 13) ≤ 4) : mw_Cp lc 2 189 [(2, 83, 0)] E h (fun z => -1 ≤ z ∧ (0 ≤ z → z < R 87 (B 13))) := by
  refine mw_con (D := 1) (C := evd_189) (X := hx_189) [] hen ei_189 hxe_189 (Nat.le_of_ble_eq_true rfl) fun d F G hd hF hG => ?_
  show G 0 [(2, 83, 0)] [] E h
  obtain ⟨s1, s2, s3, s4, s5, s6, s7, s8, s9, s10, s11, s12, s13⟩ := hs
  refine mw_aload hG a189_0 rfl ?_
  refine mw_aload hG a189_1 rfl ?_
  refine mw_geta hG hV a189_2 rfl ?_
  refine mw_push hG a189_5 mw_c4 ?_
  refine mw_aload hG a189_6 rfl ?_
  refine mw_geti hG hV a189_7 rfl ?_
  refine mw_mul hG a189_10 ?_
  refine mw_aload hG a189_11 rfl ?_
  refine mw_geta hG hV a189_12 rfl ?_
  refine mw_aload hG a189_15 rfl ?_
  refine mw_geti hG hV a189_16 rfl ?_
  refine mw_ald hG hV a189_19 rfl (by omega) ?_
  refine mw_vp3 hG hV a189_20 (mw_here hen hV ⟨by omega, by omega, by omega, by omega, by omega, by omega, by omega, by omega, by omega, by omega, by omega, by omega, by omega⟩ (Or.inl ⟨rfl, rfl⟩) (by omega)) rfl (by omega) fun y20 hy20 => ?_
  refine mw_iret hG a189_23 (Or.inl rfl) (hF _ _ _ ⟨rfl, rfl, _, rfl, by omega⟩)
set_option maxRecDepth 20000 in
theorem mw_glyphHere (hen : en_ok) {lc : Launch} {h0 h : ev_H} {E : e2_E} {B : Nat → Int} {fk a fp en tok num : Int} {nm : Nat} {cs wi pi ui : Int} {R : Nat → Int → Int} (hV : mw_V h0 h (mw_o B fk a fp en tok num nm cs wi pi ui) R) (hs : mw_ok (B 21) fk a en tok num nm) (hb : 0 ≤ B 13 ∧ B 13 ≤ 1) (h8 : 0 ≤ R 88 (B 13) ∧ R 88 (B 13) ≤ 8) : mw_Cp lc 2 190 [(2, 83, 0)] E h (fun z => -1 ≤ z ∧ (0 ≤ z → z < R 88 (B 13))) := by
  refine mw_con (D := 1) (C := evd_190) (X := hx_190) [] hen ei_190 hxe_190 (Nat.le_of_ble_eq_true rfl) fun d F G hd hF hG => ?_
  show G 0 [(2, 83, 0)] [] E h
  obtain ⟨s1, s2, s3, s4, s5, s6, s7, s8, s9, s10, s11, s12, s13⟩ := hs
  refine mw_aload hG a190_0 rfl ?_
  refine mw_aload hG a190_1 rfl ?_
  refine mw_geta hG hV a190_2 rfl ?_
  refine mw_push hG a190_5 mw_c8 ?_
  refine mw_aload hG a190_7 rfl ?_
  refine mw_geti hG hV a190_8 rfl ?_
  refine mw_mul hG a190_11 ?_
  refine mw_aload hG a190_12 rfl ?_
  refine mw_geta hG hV a190_13 rfl ?_
  refine mw_aload hG a190_16 rfl ?_
  refine mw_geti hG hV a190_17 rfl ?_
  refine mw_ald hG hV a190_20 rfl (by omega) ?_
  refine mw_vp3 hG hV a190_21 (mw_here hen hV ⟨by omega, by omega, by omega, by omega, by omega, by omega, by omega, by omega, by omega, by omega, by omega, by omega, by omega⟩ (Or.inr ⟨rfl, rfl⟩) (by omega)) rfl (by omega) fun y21 hy21 => ?_
  refine mw_iret hG a190_24 (Or.inl rfl) (hF _ _ _ ⟨rfl, rfl, _, rfl, by omega⟩)
