/-! THE REFERENCE'S MEADOW: signs, tokens, faults -/
theorem mw_s23 {B : Nat → Int} {fk a fp en tok num : Int} {nm : Nat} {cs wi pi ui z : Int} : (mw_o B fk a fp en tok num nm cs wi pi ui).set 23 (mw_i z) = mw_o B z a fp en tok num nm cs wi pi ui := rfl
theorem mw_s24 {B : Nat → Int} {fk a fp en tok num : Int} {nm : Nat} {cs wi pi ui z : Int} : (mw_o B fk a fp en tok num nm cs wi pi ui).set 24 (mw_i z) = mw_o B fk z fp en tok num nm cs wi pi ui := rfl
theorem mw_s36 {B : Nat → Int} {fk a fp en tok num : Int} {nm : Nat} {cs wi pi ui z : Int} : (mw_o B fk a fp en tok num nm cs wi pi ui).set 36 (mw_i z) = mw_o B fk a z en tok num nm cs wi pi ui := rfl
theorem mw_s37 {B : Nat → Int} {fk a fp en tok num : Int} {nm : Nat} {cs wi pi ui z : Int} : (mw_o B fk a fp en tok num nm cs wi pi ui).set 37 (mw_i z) = mw_o B fk a fp z tok num nm cs wi pi ui := rfl
theorem mw_s38 {B : Nat → Int} {fk a fp en tok num : Int} {nm : Nat} {cs wi pi ui z : Int} : (mw_o B fk a fp en tok num nm cs wi pi ui).set 38 (mw_i z) = mw_o B fk a fp en z num nm cs wi pi ui := rfl
theorem mw_s41 {B : Nat → Int} {fk a fp en tok num : Int} {nm : Nat} {cs wi pi ui z : Int} : (mw_o B fk a fp en tok num nm cs wi pi ui).set 41 (mw_i z) = mw_o B fk a fp en tok z nm cs wi pi ui := rfl
theorem mw_s42 {B : Nat → Int} {fk a fp en tok num : Int} {nm n : Nat} {cs wi pi ui : Int} : (mw_o B fk a fp en tok num nm cs wi pi ui).set 42 (4, n, 0) = mw_o B fk a fp en tok num n cs wi pi ui := rfl
theorem mw_s57 {B : Nat → Int} {fk a fp en tok num : Int} {nm : Nat} {cs wi pi ui z : Int} : (mw_o B fk a fp en tok num nm cs wi pi ui).set 57 (mw_i z) = mw_o B fk a fp en tok num nm z wi pi ui := rfl
theorem mw_s58 {B : Nat → Int} {fk a fp en tok num : Int} {nm : Nat} {cs wi pi ui z : Int} : (mw_o B fk a fp en tok num nm cs wi pi ui).set 58 (mw_i z) = mw_o B fk a fp en tok num nm cs z pi ui := rfl
theorem mw_s59 {B : Nat → Int} {fk a fp en tok num : Int} {nm : Nat} {cs wi pi ui z : Int} : (mw_o B fk a fp en tok num nm cs wi pi ui).set 59 (mw_i z) = mw_o B fk a fp en tok num nm cs wi z ui := rfl
theorem mw_s60 {B : Nat → Int} {fk a fp en tok num : Int} {nm : Nat} {cs wi pi ui z : Int} : (mw_o B fk a fp en tok num nm cs wi pi ui).set 60 (mw_i z) = mw_o B fk a fp en tok num nm cs wi pi z := rfl
theorem mw_s0 {B : Nat → Int} {fk a fp en tok num : Int} {nm : Nat} {cs wi pi ui z : Int} : (mw_o B fk a fp en tok num nm cs wi pi ui).set 0 (mw_i z) = mw_o (mu1 B 0 z) fk a fp en tok num nm cs wi pi ui := rfl
theorem mw_s6 {B : Nat → Int} {fk a fp en tok num : Int} {nm : Nat} {cs wi pi ui z : Int} : (mw_o B fk a fp en tok num nm cs wi pi ui).set 6 (mw_i z) = mw_o (mu1 B 6 z) fk a fp en tok num nm cs wi pi ui := rfl
theorem mw_s13 {B : Nat → Int} {fk a fp en tok num : Int} {nm : Nat} {cs wi pi ui z : Int} : (mw_o B fk a fp en tok num nm cs wi pi ui).set 13 (mw_i z) = mw_o (mu1 B 13 z) fk a fp en tok num nm cs wi pi ui := rfl
theorem mw_s14 {B : Nat → Int} {fk a fp en tok num : Int} {nm : Nat} {cs wi pi ui z : Int} : (mw_o B fk a fp en tok num nm cs wi pi ui).set 14 (mw_i z) = mw_o (mu1 B 14 z) fk a fp en tok num nm cs wi pi ui := rfl
theorem mw_s20 {B : Nat → Int} {fk a fp en tok num : Int} {nm : Nat} {cs wi pi ui z : Int} : (mw_o B fk a fp en tok num nm cs wi pi ui).set 20 (mw_i z) = mw_o (mu1 B 20 z) fk a fp en tok num nm cs wi pi ui := rfl
theorem mw_s21 {B : Nat → Int} {fk a fp en tok num : Int} {nm : Nat} {cs wi pi ui z : Int} : (mw_o B fk a fp en tok num nm cs wi pi ui).set 21 (mw_i z) = mw_o (mu1 B 21 z) fk a fp en tok num nm cs wi pi ui := rfl
theorem mw_s27 {B : Nat → Int} {fk a fp en tok num : Int} {nm : Nat} {cs wi pi ui z : Int} : (mw_o B fk a fp en tok num nm cs wi pi ui).set 27 (mw_i z) = mw_o (mu1 B 27 z) fk a fp en tok num nm cs wi pi ui := rfl
theorem mw_s34 {B : Nat → Int} {fk a fp en tok num : Int} {nm : Nat} {cs wi pi ui z : Int} : (mw_o B fk a fp en tok num nm cs wi pi ui).set 34 (mw_i z) = mw_o (mu1 B 34 z) fk a fp en tok num nm cs wi pi ui := rfl
def mw_sg (R : Nat → Int → Int) (sz k : Int) : Int := if k < sz then (eb_and (Int32.ofInt (R 85 k)) (Int32.ofInt 255)).toInt else 0
theorem mw_sg_r (R : Nat → Int → Int) (sz k : Int) : -2147483648 ≤ mw_sg R sz k ∧ mw_sg R sz k < 2147483648 := by
  unfold mw_sg
  split
  · exact mw_rI _
  · omega
theorem mw_sg_0 {R : Nat → Int → Int} {sz k : Int} (h : sz ≤ k) : mw_sg R sz k = 0 := if_neg (by omega)
theorem mw_sg_1 {R : Nat → Int → Int} {sz k : Int} (h : mw_sg R sz k ≠ 0) : k < sz := by
  have : ¬ sz ≤ k := fun z => h (mw_sg_0 z)
  omega
/-- where the text is read -/
def mw_ok (sz fk a en tok num : Int) (nm : Nat) : Prop := 0 ≤ a ∧ a ≤ en ∧ en ≤ sz ∧ sz ≤ 1600 ∧ 0 ≤ fk ∧ fk ≤ 5 ∧ 0 ≤ tok ∧ tok ≤ 5 ∧ 0 ≤ num ∧ num ≤ 9999 ∧ (tok ≠ 0 → a < en) ∧ (tok = 2 ∨ tok = 3 → en - a ≤ 8) ∧ nm < 18446744073709551616
set_option maxRecDepth 20000 in
theorem mw_sign (hen : en_ok) {lc : Launch} {h0 h : ev_H} {E : e2_E} {B : Nat → Int} {fk a fp en tok num : Int} {nm : Nat} {cs wi pi ui : Int} {R : Nat → Int → Int} (hV : mw_V h0 h (mw_o B fk a fp en tok num nm cs wi pi ui) R) {k : Int} (hs : 0 ≤ B 21 ∧ B 21 ≤ 1600) (hk : 0 ≤ k ∧ k < 2147483648) : mw_Cp lc 1 170 [(2, 83, 0), mw_i k] E h (fun z => z = mw_sg R (B 21) k) := by
  refine mw_con (D := 0) (C := evd_170) (X := hx_170) [] hen ei_170 hxe_170 (Nat.le_of_ble_eq_true rfl) fun d F G hd hF hG => ?_
  show G 0 [(2, 83, 0), mw_i k] [] E h
  refine mw_iload hG a170_0 rfl ?_
  refine mw_aload hG a170_1 rfl ?_
  refine mw_geti hG hV a170_2 rfl ?_
  refine mw_icmp_ge hG a170_5 (by omega) (by omega) (fun z5 => ?_) (fun z5 => ?_)
  · refine mw_push hG a170_21 mw_c0 ?_
    refine mw_iret hG a170_22 (Or.inl rfl) (hF _ _ _ ⟨rfl, rfl, _, rfl, ?_⟩)
    first | exact (mw_sg_0 (by omega)).symm | exact (if_pos (by omega)).symm
  · refine mw_aload hG a170_8 rfl ?_
    refine mw_geta hG hV a170_9 rfl ?_
    refine mw_iload hG a170_12 rfl ?_
    refine mw_bald hG hV a170_13 rfl (by decide) (by omega) ?_
    refine mw_push hG a170_14 mw_c255 ?_
    refine mw_any hG a170_17 ?_
    refine mw_goto hG a170_18 ?_
    refine mw_iret hG a170_22 (Or.inl rfl) (hF _ _ _ ⟨rfl, rfl, _, rfl, ?_⟩)
    first | exact (mw_sg_0 (by omega)).symm | exact (if_pos (by omega)).symm
set_option maxRecDepth 20000 in
theorem mw_isLetter (hen : en_ok) {lc : Launch} {h : ev_H} {E : e2_E} {c : Int} (hc : -2147483648 ≤ c ∧ c < 2147483648) : mw_Cp lc 1 171 [mw_i c] E h (fun z => (z = 1 ∧ 97 ≤ c ∧ c ≤ 122) ∨ (z = 0 ∧ (c < 97 ∨ 122 < c))) := by
  refine mw_con (D := 0) (C := evd_171) (X := hx_171) [] hen ei_171 hxe_171 (Nat.le_of_ble_eq_true rfl) fun d F G hd hF hG => ?_
  show G 0 [mw_i c] [] E h
  refine mw_iload hG a171_0 rfl ?_
  refine mw_push hG a171_1 mw_c97 ?_
  refine mw_icmp_lt hG a171_3 (by omega) (by omega) (fun z3 => ?_) (fun z3 => ?_)
  · refine mw_push hG a171_16 mw_c0 ?_
    refine mw_iret hG a171_17 (Or.inr ⟨rfl, by omega⟩) (hF _ _ _ ⟨rfl, rfl, _, rfl, by omega⟩)
  · refine mw_iload hG a171_6 rfl ?_
    refine mw_push hG a171_7 mw_c122 ?_
    refine mw_icmp_gt hG a171_9 (by omega) (by omega) (fun z9 => ?_) (fun z9 => ?_)
    · refine mw_push hG a171_16 mw_c0 ?_
      refine mw_iret hG a171_17 (Or.inr ⟨rfl, by omega⟩) (hF _ _ _ ⟨rfl, rfl, _, rfl, by omega⟩)
    · refine mw_push hG a171_12 mw_c1 ?_
      refine mw_goto hG a171_13 ?_
      refine mw_iret hG a171_17 (Or.inr ⟨rfl, by omega⟩) (hF _ _ _ ⟨rfl, rfl, _, rfl, by omega⟩)
set_option maxRecDepth 20000 in
theorem mw_isDigit (hen : en_ok) {lc : Launch} {h : ev_H} {E : e2_E} {c : Int} (hc : -2147483648 ≤ c ∧ c < 2147483648) : mw_Cp lc 1 172 [mw_i c] E h (fun z => (z = 1 ∧ 48 ≤ c ∧ c ≤ 57) ∨ (z = 0 ∧ (c < 48 ∨ 57 < c))) := by
  refine mw_con (D := 0) (C := evd_172) (X := hx_172) [] hen ei_172 hxe_172 (Nat.le_of_ble_eq_true rfl) fun d F G hd hF hG => ?_
  show G 0 [mw_i c] [] E h
  refine mw_iload hG a172_0 rfl ?_
  refine mw_push hG a172_1 mw_c48 ?_
  refine mw_icmp_lt hG a172_3 (by omega) (by omega) (fun z3 => ?_) (fun z3 => ?_)
  · refine mw_push hG a172_16 mw_c0 ?_
    refine mw_iret hG a172_17 (Or.inr ⟨rfl, by omega⟩) (hF _ _ _ ⟨rfl, rfl, _, rfl, by omega⟩)
  · refine mw_iload hG a172_6 rfl ?_
    refine mw_push hG a172_7 mw_c57 ?_
    refine mw_icmp_gt hG a172_9 (by omega) (by omega) (fun z9 => ?_) (fun z9 => ?_)
    · refine mw_push hG a172_16 mw_c0 ?_
      refine mw_iret hG a172_17 (Or.inr ⟨rfl, by omega⟩) (hF _ _ _ ⟨rfl, rfl, _, rfl, by omega⟩)
    · refine mw_push hG a172_12 mw_c1 ?_
      refine mw_goto hG a172_13 ?_
      refine mw_iret hG a172_17 (Or.inr ⟨rfl, by omega⟩) (hF _ _ _ ⟨rfl, rfl, _, rfl, by omega⟩)
set_option maxRecDepth 20000 in
theorem mw_isSign (hen : en_ok) {lc : Launch} {h : ev_H} {E : e2_E} {c : Int} (hc : -2147483648 ≤ c ∧ c < 2147483648) : mw_Cp lc 1 176 [mw_i c] E h (fun z => z = 0 ∨ z = 1) := by
  refine mw_con (D := 0) (C := evd_176) (X := hx_176) [] hen ei_176 hxe_176 (Nat.le_of_ble_eq_true rfl) fun d F G hd hF hG => ?_
  show G 0 [mw_i c] [] E h
  have t66 : G 66 [mw_i c] [] E h := by
    refine mw_push hG a176_66 mw_c1 ?_
    refine mw_goto hG a176_67 ?_
    refine mw_iret hG a176_71 (Or.inr ⟨rfl, by omega⟩) (hF _ _ _ ⟨rfl, rfl, _, rfl, by omega⟩)
  refine mw_iload hG a176_0 rfl ?_
  refine mw_push hG a176_1 mw_c59 ?_
  refine mw_icmp_eq hG a176_3 (by omega) (by omega) (fun z3 => ?_) (fun z3 => ?_)
  · exact t66
  · refine mw_iload hG a176_6 rfl ?_
    refine mw_push hG a176_7 mw_c40 ?_
    refine mw_icmp_eq hG a176_9 (by omega) (by omega) (fun z9 => ?_) (fun z9 => ?_)
    · exact t66
    · refine mw_iload hG a176_12 rfl ?_
      refine mw_push hG a176_13 mw_c41 ?_
      refine mw_icmp_eq hG a176_15 (by omega) (by omega) (fun z15 => ?_) (fun z15 => ?_)
      · exact t66
      · refine mw_iload hG a176_18 rfl ?_
        refine mw_push hG a176_19 mw_c60 ?_
        refine mw_icmp_eq hG a176_21 (by omega) (by omega) (fun z21 => ?_) (fun z21 => ?_)
        · exact t66
        · refine mw_iload hG a176_24 rfl ?_
          refine mw_push hG a176_25 mw_c62 ?_
          refine mw_icmp_eq hG a176_27 (by omega) (by omega) (fun z27 => ?_) (fun z27 => ?_)
          · exact t66
          · refine mw_iload hG a176_30 rfl ?_
            refine mw_push hG a176_31 mw_c61 ?_
            refine mw_icmp_eq hG a176_33 (by omega) (by omega) (fun z33 => ?_) (fun z33 => ?_)
            · exact t66
            · refine mw_iload hG a176_36 rfl ?_
              refine mw_push hG a176_37 mw_c43 ?_
              refine mw_icmp_eq hG a176_39 (by omega) (by omega) (fun z39 => ?_) (fun z39 => ?_)
              · exact t66
              · refine mw_iload hG a176_42 rfl ?_
                refine mw_push hG a176_43 mw_c45 ?_
                refine mw_icmp_eq hG a176_45 (by omega) (by omega) (fun z45 => ?_) (fun z45 => ?_)
                · exact t66
                · refine mw_iload hG a176_48 rfl ?_
                  refine mw_push hG a176_49 mw_c42 ?_
                  refine mw_icmp_eq hG a176_51 (by omega) (by omega) (fun z51 => ?_) (fun z51 => ?_)
                  · exact t66
                  · refine mw_iload hG a176_54 rfl ?_
                    refine mw_push hG a176_55 mw_c47 ?_
                    refine mw_icmp_eq hG a176_57 (by omega) (by omega) (fun z57 => ?_) (fun z57 => ?_)
                    · exact t66
                    · refine mw_iload hG a176_60 rfl ?_
                      refine mw_push hG a176_61 mw_c37 ?_
                      refine mw_icmp_ne hG a176_63 (by omega) (by omega) (fun z63 => ?_) (fun z63 => ?_)
                      · refine mw_push hG a176_70 mw_c0 ?_
                        refine mw_iret hG a176_71 (Or.inr ⟨rfl, by omega⟩) (hF _ _ _ ⟨rfl, rfl, _, rfl, by omega⟩)
                      · exact t66
set_option maxRecDepth 20000 in
theorem mw_fails (hen : en_ok) {lc : Launch} {h0 h : ev_H} {E : e2_E} {B : Nat → Int} {fk a fp en tok num : Int} {nm : Nat} {cs wi pi ui : Int} {R : Nat → Int → Int} (hV : mw_V h0 h (mw_o B fk a fp en tok num nm cs wi pi ui) R) {kd pl : Int} (hs : 0 ≤ fk ∧ fk ≤ 5) : mw_Cv lc 1 173 [(2, 83, 0), mw_i kd, mw_i pl] E h (fun h' => ∃ fk2 fp2, mw_V h0 h' (mw_o B fk2 a fp2 en tok num nm cs wi pi ui) R ∧ (fk ≠ 0 → fk2 = fk) ∧ (fk = 0 → fk2 = kd)) := by
  refine mw_con (D := 0) (C := evd_173) (X := hx_173) [] hen ei_173 hxe_173 (Nat.le_of_ble_eq_true rfl) fun d F G hd hF hG => ?_
  show G 0 [(2, 83, 0), mw_i kd, mw_i pl] [] E h
  refine mw_aload hG a173_0 rfl ?_
  refine mw_geti hG hV a173_1 rfl ?_
  refine mw_ifc_le hG a173_4 (by omega) (fun z4 => ?_) (fun z4 => ?_)
  · refine mw_aload hG a173_8 rfl ?_
    refine mw_iload hG a173_9 rfl ?_
    refine mw_putf hG hV a173_10 (Nat.le_of_ble_eq_true rfl) mw_s23 fun h hV => ?_
    refine mw_aload hG a173_13 rfl ?_
    refine mw_iload hG a173_14 rfl ?_
    refine mw_putf hG hV a173_15 (Nat.le_of_ble_eq_true rfl) mw_s36 fun h hV => ?_
    refine mw_vret hG a173_18 (hF _ _ _ ⟨rfl, rfl, _, _, hV, by omega, by omega⟩)
  · refine mw_vret hG a173_7 (hF _ _ _ ⟨rfl, rfl, _, _, hV, by omega, by omega⟩)
set_option maxRecDepth 20000 in
theorem mw_isGood (hen : en_ok) {lc : Launch} {h0 h : ev_H} {E : e2_E} {B : Nat → Int} {fk a fp en tok num : Int} {nm : Nat} {cs wi pi ui : Int} {R : Nat → Int → Int} (hV : mw_V h0 h (mw_o B fk a fp en tok num nm cs wi pi ui) R) (hs : 0 ≤ fk ∧ fk ≤ 5) : mw_Cp lc 1 174 [(2, 83, 0)] E h (fun z => (z = 1 ∧ fk = 0) ∨ (z = 0 ∧ fk ≠ 0)) := by
  refine mw_con (D := 0) (C := evd_174) (X := hx_174) [] hen ei_174 hxe_174 (Nat.le_of_ble_eq_true rfl) fun d F G hd hF hG => ?_
  show G 0 [(2, 83, 0)] [] E h
  refine mw_aload hG a174_0 rfl ?_
  refine mw_geti hG hV a174_1 rfl ?_
  refine mw_ifc_ne hG a174_4 (by omega) (fun z4 => ?_) (fun z4 => ?_)
  · refine mw_push hG a174_11 mw_c0 ?_
    refine mw_iret hG a174_12 (Or.inr ⟨rfl, by omega⟩) (hF _ _ _ ⟨rfl, rfl, _, rfl, by omega⟩)
  · refine mw_push hG a174_7 mw_c1 ?_
    refine mw_goto hG a174_8 ?_
    refine mw_iret hG a174_12 (Or.inr ⟨rfl, by omega⟩) (hF _ _ _ ⟨rfl, rfl, _, rfl, by omega⟩)
set_option maxHeartbeats 4000000 in
set_option maxRecDepth 20000 in
theorem mw_isKept (hen : en_ok) {lc : Launch} {h : ev_H} {E : e2_E} {x : Nat} (hx : x < 18446744073709551616) : mw_Cp lc 1 175 [(4, x, 0)] E h (fun z => z = 0 ∨ z = 1) := by
  refine mw_con (D := 0) (C := evd_175) (X := hx_175) [] hen ei_175 hxe_175 (Nat.le_of_ble_eq_true rfl) fun d F G hd hF hG => ?_
  show G 0 [(4, x, 0), (9, 0, 0), (9, 0, 0)] [] E h
  have t162 : ∀ v, G 162 [(4, x, 0), (9, 0, 0), v] [] E h := by
    intro v
    refine mw_push hG a175_162 mw_c1 ?_
    refine mw_goto hG a175_163 ?_
    refine mw_iret hG a175_167 (Or.inr ⟨rfl, by omega⟩) (hF _ _ _ ⟨rfl, rfl, _, rfl, by omega⟩)
  have t86 : ∀ z, z = 0 ∨ z = 1 → G 86 [(4, x, 0), (9, 0, 0), mw_i z] [] E h := by
    intro z hz
    refine mw_iload hG a175_86 rfl ?_
    refine mw_ifc_ne hG a175_87 (by omega) (fun z87 => ?_) (fun z87 => ?_)
    · exact t162 _
    · refine mw_lload hG a175_90 rfl rfl ?_
      refine mw_pushl hG a175_91 ?_
      refine mw_lcmp hG a175_94 (by omega) (by omega) fun y94 hy94 hz94 => ?_
      refine mw_ifc_eq hG a175_95 (by omega) (fun z95 => ?_) (fun z95 => ?_)
      · exact t162 _
      · refine mw_lload hG a175_98 rfl rfl ?_
        refine mw_pushl hG a175_99 ?_
        refine mw_lcmp hG a175_102 (by omega) (by omega) fun y102 hy102 hz102 => ?_
        refine mw_ifc_eq hG a175_103 (by omega) (fun z103 => ?_) (fun z103 => ?_)
        · exact t162 _
        · refine mw_lload hG a175_106 rfl rfl ?_
          refine mw_pushl hG a175_107 ?_
          refine mw_lcmp hG a175_110 (by omega) (by omega) fun y110 hy110 hz110 => ?_
          refine mw_ifc_eq hG a175_111 (by omega) (fun z111 => ?_) (fun z111 => ?_)
          · exact t162 _
          · refine mw_lload hG a175_114 rfl rfl ?_
            refine mw_pushl hG a175_115 ?_
            refine mw_lcmp hG a175_118 (by omega) (by omega) fun y118 hy118 hz118 => ?_
            refine mw_ifc_eq hG a175_119 (by omega) (fun z119 => ?_) (fun z119 => ?_)
            · exact t162 _
            · refine mw_lload hG a175_122 rfl rfl ?_
              refine mw_pushl hG a175_123 ?_
              refine mw_lcmp hG a175_126 (by omega) (by omega) fun y126 hy126 hz126 => ?_
              refine mw_ifc_eq hG a175_127 (by omega) (fun z127 => ?_) (fun z127 => ?_)
              · exact t162 _
              · refine mw_lload hG a175_130 rfl rfl ?_
                refine mw_pushl hG a175_131 ?_
                refine mw_lcmp hG a175_134 (by omega) (by omega) fun y134 hy134 hz134 => ?_
                refine mw_ifc_eq hG a175_135 (by omega) (fun z135 => ?_) (fun z135 => ?_)
                · exact t162 _
                · refine mw_lload hG a175_138 rfl rfl ?_
                  refine mw_pushl hG a175_139 ?_
                  refine mw_lcmp hG a175_142 (by omega) (by omega) fun y142 hy142 hz142 => ?_
                  refine mw_ifc_eq hG a175_143 (by omega) (fun z143 => ?_) (fun z143 => ?_)
                  · exact t162 _
                  · refine mw_lload hG a175_146 rfl rfl ?_
                    refine mw_pushl hG a175_147 ?_
                    refine mw_lcmp hG a175_150 (by omega) (by omega) fun y150 hy150 hz150 => ?_
                    refine mw_ifc_eq hG a175_151 (by omega) (fun z151 => ?_) (fun z151 => ?_)
                    · exact t162 _
                    · refine mw_lload hG a175_154 rfl rfl ?_
                      refine mw_pushl hG a175_155 ?_
                      refine mw_lcmp hG a175_158 (by omega) (by omega) fun y158 hy158 hz158 => ?_
                      refine mw_ifc_ne hG a175_159 (by omega) (fun z159 => ?_) (fun z159 => ?_)
                      · refine mw_push hG a175_166 mw_c0 ?_
                        refine mw_iret hG a175_167 (Or.inr ⟨rfl, by omega⟩) (hF _ _ _ ⟨rfl, rfl, _, rfl, by omega⟩)
                      · exact t162 _
  have t80 : G 80 [(4, x, 0), (9, 0, 0), (9, 0, 0)] [] E h := by
    refine mw_push hG a175_80 mw_c1 ?_
    refine mw_goto hG a175_81 ?_
    refine mw_istore hG a175_85 rfl (Nat.le_of_ble_eq_true rfl) rfl ?_
    exact t86 _ (by omega)
  refine mw_lload hG a175_0 rfl rfl ?_
  refine mw_pushl hG a175_1 ?_
  refine mw_lcmp hG a175_4 (by omega) (by omega) fun y4 hy4 hz4 => ?_
  refine mw_ifc_eq hG a175_5 (by omega) (fun z5 => ?_) (fun z5 => ?_)
  · exact t80
  · refine mw_lload hG a175_8 rfl rfl ?_
    refine mw_pushl hG a175_9 ?_
    refine mw_lcmp hG a175_12 (by omega) (by omega) fun y12 hy12 hz12 => ?_
    refine mw_ifc_eq hG a175_13 (by omega) (fun z13 => ?_) (fun z13 => ?_)
    · exact t80
    · refine mw_lload hG a175_16 rfl rfl ?_
      refine mw_pushl hG a175_17 ?_
      refine mw_lcmp hG a175_20 (by omega) (by omega) fun y20 hy20 hz20 => ?_
      refine mw_ifc_eq hG a175_21 (by omega) (fun z21 => ?_) (fun z21 => ?_)
      · exact t80
      · refine mw_lload hG a175_24 rfl rfl ?_
        refine mw_pushl hG a175_25 ?_
        refine mw_lcmp hG a175_28 (by omega) (by omega) fun y28 hy28 hz28 => ?_
        refine mw_ifc_eq hG a175_29 (by omega) (fun z29 => ?_) (fun z29 => ?_)
        · exact t80
        · refine mw_lload hG a175_32 rfl rfl ?_
          refine mw_pushl hG a175_33 ?_
          refine mw_lcmp hG a175_36 (by omega) (by omega) fun y36 hy36 hz36 => ?_
          refine mw_ifc_eq hG a175_37 (by omega) (fun z37 => ?_) (fun z37 => ?_)
          · exact t80
          · refine mw_lload hG a175_40 rfl rfl ?_
            refine mw_pushl hG a175_41 ?_
            refine mw_lcmp hG a175_44 (by omega) (by omega) fun y44 hy44 hz44 => ?_
            refine mw_ifc_eq hG a175_45 (by omega) (fun z45 => ?_) (fun z45 => ?_)
            · exact t80
            · refine mw_lload hG a175_48 rfl rfl ?_
              refine mw_pushl hG a175_49 ?_
              refine mw_lcmp hG a175_52 (by omega) (by omega) fun y52 hy52 hz52 => ?_
              refine mw_ifc_eq hG a175_53 (by omega) (fun z53 => ?_) (fun z53 => ?_)
              · exact t80
              · refine mw_lload hG a175_56 rfl rfl ?_
                refine mw_pushl hG a175_57 ?_
                refine mw_lcmp hG a175_60 (by omega) (by omega) fun y60 hy60 hz60 => ?_
                refine mw_ifc_eq hG a175_61 (by omega) (fun z61 => ?_) (fun z61 => ?_)
                · exact t80
                · refine mw_lload hG a175_64 rfl rfl ?_
                  refine mw_pushl hG a175_65 ?_
                  refine mw_lcmp hG a175_68 (by omega) (by omega) fun y68 hy68 hz68 => ?_
                  refine mw_ifc_eq hG a175_69 (by omega) (fun z69 => ?_) (fun z69 => ?_)
                  · exact t80
                  · refine mw_lload hG a175_72 rfl rfl ?_
                    refine mw_pushl hG a175_73 ?_
                    refine mw_lcmp hG a175_76 (by omega) (by omega) fun y76 hy76 hz76 => ?_
                    refine mw_ifc_ne hG a175_77 (by omega) (fun z77 => ?_) (fun z77 => ?_)
                    · refine mw_push hG a175_84 mw_c0 ?_
                      refine mw_istore hG a175_85 rfl (Nat.le_of_ble_eq_true rfl) rfl ?_
                      exact t86 _ (by omega)
                    · exact t80
set_option maxRecDepth 20000 in
theorem mw_isSignHere (hen : en_ok) {lc : Launch} {h0 h : ev_H} {E : e2_E} {B : Nat → Int} {fk a fp en tok num : Int} {nm : Nat} {cs wi pi ui : Int} {R : Nat → Int → Int} (hV : mw_V h0 h (mw_o B fk a fp en tok num nm cs wi pi ui) R) (hs : mw_ok (B 21) fk a en tok num nm) {c : Int} (hc : -2147483648 ≤ c ∧ c < 2147483648) : mw_Cp lc 2 178 [(2, 83, 0), mw_i c] E h (fun z => (z = 1 ∧ tok = 5 ∧ mw_sg R (B 21) a = c) ∨ z = 0) := by
  refine mw_con (D := 1) (C := evd_178) (X := hx_178) [] hen ei_178 hxe_178 (Nat.le_of_ble_eq_true rfl) fun d F G hd hF hG => ?_
  show G 0 [(2, 83, 0), mw_i c] [] E h
  obtain ⟨s1, s2, s3, s4, s5, s6, s7, s8, s9, s10, s11, s12, s13⟩ := hs
  refine mw_aload hG a178_0 rfl ?_
  refine mw_geti hG hV a178_1 rfl ?_
  refine mw_push hG a178_4 mw_c5 ?_
  refine mw_icmp_ne hG a178_5 (by omega) (by omega) (fun z5 => ?_) (fun z5 => ?_)
  · refine mw_push hG a178_24 mw_c0 ?_
    refine mw_iret hG a178_25 (Or.inr ⟨rfl, by omega⟩) (hF _ _ _ ⟨rfl, rfl, _, rfl, ?_⟩)
    first | exact Or.inr rfl | exact Or.inl ⟨rfl, by omega, by omega⟩
  · refine mw_aload hG a178_8 rfl ?_
    refine mw_aload hG a178_9 rfl ?_
    refine mw_geti hG hV a178_10 rfl ?_
    refine mw_vp1 hG hV a178_13 (mw_sign hen hV (by omega) (by omega)) rfl (by omega) fun y13 hy13 => ?_
    have hr13 : -2147483648 ≤ y13 ∧ y13 < 2147483648 := by rw [hy13]; exact mw_sg_r _ _ _
    refine mw_iload hG a178_16 rfl ?_
    refine mw_icmp_ne hG a178_17 (by omega) (by omega) (fun z17 => ?_) (fun z17 => ?_)
    · refine mw_push hG a178_24 mw_c0 ?_
      refine mw_iret hG a178_25 (Or.inr ⟨rfl, by omega⟩) (hF _ _ _ ⟨rfl, rfl, _, rfl, ?_⟩)
      first | exact Or.inr rfl | exact Or.inl ⟨rfl, by omega, by omega⟩
    · refine mw_push hG a178_20 mw_c1 ?_
      refine mw_goto hG a178_21 ?_
      refine mw_iret hG a178_25 (Or.inr ⟨rfl, by omega⟩) (hF _ _ _ ⟨rfl, rfl, _, rfl, ?_⟩)
      first | exact Or.inr rfl | exact Or.inl ⟨rfl, by omega, by omega⟩
set_option maxRecDepth 20000 in
theorem mw_isWord (hen : en_ok) {lc : Launch} {h0 h : ev_H} {E : e2_E} {B : Nat → Int} {fk a fp en tok num : Int} {nm : Nat} {cs wi pi ui : Int} {R : Nat → Int → Int} (hV : mw_V h0 h (mw_o B fk a fp en tok num nm cs wi pi ui) R) (hs : mw_ok (B 21) fk a en tok num nm) {u : Nat} (hu : u < 18446744073709551616) : mw_Cp lc 1 179 [(2, 83, 0), (4, u, 0)] E h (fun z => (z = 1 ∧ tok = 3 ∧ nm = u) ∨ (z = 0 ∧ (tok ≠ 3 ∨ nm ≠ u))) := by
  refine mw_con (D := 0) (C := evd_179) (X := hx_179) [] hen ei_179 hxe_179 (Nat.le_of_ble_eq_true rfl) fun d F G hd hF hG => ?_
  show G 0 [(2, 83, 0), (4, u, 0), (9, 0, 0)] [] E h
  obtain ⟨s1, s2, s3, s4, s5, s6, s7, s8, s9, s10, s11, s12, s13⟩ := hs
  refine mw_aload hG a179_0 rfl ?_
  refine mw_geti hG hV a179_1 rfl ?_
  refine mw_push hG a179_4 mw_c3 ?_
  refine mw_icmp_ne hG a179_5 (by omega) (by omega) (fun z5 => ?_) (fun z5 => ?_)
  · refine mw_push hG a179_21 mw_c0 ?_
    refine mw_iret hG a179_22 (Or.inr ⟨rfl, by omega⟩) (hF _ _ _ ⟨rfl, rfl, _, rfl, by omega⟩)
  · refine mw_aload hG a179_8 rfl ?_
    refine mw_getl hG hV a179_9 rfl ?_
    refine mw_lload hG a179_12 rfl rfl ?_
    refine mw_lcmp hG a179_13 (by omega) (by omega) fun y13 hy13 hz13 => ?_
    refine mw_ifc_ne hG a179_14 (by omega) (fun z14 => ?_) (fun z14 => ?_)
    · refine mw_push hG a179_21 mw_c0 ?_
      refine mw_iret hG a179_22 (Or.inr ⟨rfl, by omega⟩) (hF _ _ _ ⟨rfl, rfl, _, rfl, by omega⟩)
    · refine mw_push hG a179_17 mw_c1 ?_
      refine mw_goto hG a179_18 ?_
      refine mw_iret hG a179_22 (Or.inr ⟨rfl, by omega⟩) (hF _ _ _ ⟨rfl, rfl, _, rfl, by omega⟩)
set_option maxRecDepth 20000 in
theorem mw_misplaced (hen : en_ok) {lc : Launch} {h0 h : ev_H} {E : e2_E} {B : Nat → Int} {fk a fp en tok num : Int} {nm : Nat} {cs wi pi ui : Int} {R : Nat → Int → Int} (hV : mw_V h0 h (mw_o B fk a fp en tok num nm cs wi pi ui) R) (hs : 0 ≤ fk ∧ fk ≤ 5) (ht : 0 ≤ tok ∧ tok ≤ 5) : mw_Cv lc 2 180 [(2, 83, 0)] E h (fun h' => ∃ fk2 fp2, mw_V h0 h' (mw_o B fk2 a fp2 en tok num nm cs wi pi ui) R ∧ 1 ≤ fk2 ∧ fk2 ≤ 5) := by
  refine mw_con (D := 1) (C := evd_180) (X := hx_180) [] hen ei_180 hxe_180 (Nat.le_of_ble_eq_true rfl) fun d F G hd hF hG => ?_
  show G 0 [(2, 83, 0)] [] E h
  refine mw_aload hG a180_0 rfl ?_
  refine mw_aload hG a180_1 rfl ?_
  refine mw_geti hG hV a180_2 rfl ?_
  refine mw_push hG a180_5 mw_c1 ?_
  refine mw_icmp_ne hG a180_6 (by omega) (by omega) (fun z6 => ?_) (fun z6 => ?_)
  · refine mw_push hG a180_13 mw_c2 ?_
    refine mw_aload hG a180_14 rfl ?_
    refine mw_geti hG hV a180_15 rfl ?_
    refine mw_vv2 hG hV a180_18 (mw_fails hen hV (by omega)) rfl (by omega) fun h hq18 => ?_
    obtain ⟨fk18, fp18, hV, p18, q18⟩ := hq18
    refine mw_vret hG a180_21 (hF _ _ _ ⟨rfl, rfl, _, _, hV, by omega⟩)
  · refine mw_push hG a180_9 mw_c1 ?_
    refine mw_goto hG a180_10 ?_
    refine mw_aload hG a180_14 rfl ?_
    refine mw_geti hG hV a180_15 rfl ?_
    refine mw_vv2 hG hV a180_18 (mw_fails hen hV (by omega)) rfl (by omega) fun h hq18 => ?_
    obtain ⟨fk18, fp18, hV, p18, q18⟩ := hq18
    refine mw_vret hG a180_21 (hF _ _ _ ⟨rfl, rfl, _, _, hV, by omega⟩)
