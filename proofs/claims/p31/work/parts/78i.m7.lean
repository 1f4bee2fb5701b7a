/-! THE REFERENCE'S MEADOW: e, readRule, clearBank, readLine -/
theorem mw_eS3 {R : Nat → Int → Int} {rb : Int} {fr : Nat} {cs wi pi ui w fk : Int} (h : (w = 1 ∧ mw_eS R rb fr cs wi pi ui 0) ∨ (w = 0 ∧ mw_eS R rb fr cs wi pi ui 1) ∨ ((w = 0 ∨ w = 1) ∧ fk ≠ 0 ∧ mw_eS R rb fr cs wi pi ui 1)) : (w = 0 ∨ w = 1) ∧ mw_eL R rb fr cs ∧ 0 ≤ wi ∧ wi ≤ 7 ∧ 0 ≤ pi ∧ pi ≤ 40 ∧ 0 ≤ ui ∧ ui ≤ 30 := by
  rcases h with ⟨h1, h2⟩ | ⟨h1, h2⟩ | ⟨h1, -, h2⟩
  · exact ⟨Or.inr h1, h2.out (by omega)⟩
  · exact ⟨Or.inl h1, h2.out (by omega)⟩
  · exact ⟨h1, h2.out (by omega)⟩
theorem mw_Z.toE {R0 R : Nat → Int → Int} {rb cs fk r : Int} (h : mw_Z R0 R rb cs fk) (hf : fk = 0) (hb : 0 ≤ rb ∧ rb ≤ 1) (hr : 0 ≤ r ∧ r ≤ 1) (hc : 0 ≤ cs ∧ cs ≤ 1120) : mw_ZE R0 (mu (mu R 104 (2 * rb + r) 1) 101 (2 * rb + r) cs) rb r cs.toNat := by
  obtain ⟨hJ, ⟨f1, f2, f3, f4⟩, ⟨b0, b1⟩, b2, b3⟩ := h
  have hcs : ((cs.toNat : Nat) : Int) = cs := by omega
  refine ⟨(hJ.p104 (by omega)).p101 (by omega), ⟨f1, f2, fun i i1 i2 => ?_, f4⟩, fun r2 g1 g2 g3 g4 => ?_, b3 hf, ?_, by omega⟩
  · obtain ⟨u1, u2, u3⟩ := f3 i i1 i2
    refine ⟨?_, u2, ?_⟩
    · rw [mu_n (by omega)]
      exact u1
    · show mu R 104 (2 * rb + r) 1 104 i = R0 104 i
      rw [mu_n (by omega)]
      exact u3
  · have g4 : mu R 104 (2 * rb + r) 1 104 (2 * rb + r2) = 1 := g4
    rw [mu_n (by omega)] at g4
    obtain ⟨fr, L, u1, u2, u3, u4, u5⟩ := b2 r2 g1 g2 g4
    refine ⟨fr, L, ?_, u2, u3, by omega, u5⟩
    rw [mu_n (by omega)]
    exact u1
  · rw [mu_e, hcs]
theorem mw_ZE.toZ {R0 R : Nat → Int → Int} {rb r cs fk : Int} {fr : Nat} (h : mw_ZE R0 R rb r fr) (hb : 0 ≤ rb ∧ rb ≤ 1) (hr : 0 ≤ r ∧ r ≤ 1) (hL : mw_eL R rb fr cs) : mw_Z R0 (mu R 102 (2 * rb + r) cs) rb cs fk := by
  have hU := h.1.g92 (i := rb) (by omega)
  obtain ⟨hJ, ⟨f1, f2, f3, f4⟩, h3, h4, h5, h6⟩ := h
  obtain ⟨L, l1, l2, l3⟩ := hL
  refine ⟨hJ.p102 (by omega), ⟨f1, f2, fun i i1 i2 => ?_, f4⟩, ⟨by omega, l3⟩, fun r2 g1 g2 g4 => ?_, fun _ => h4⟩
  · obtain ⟨u1, u2, u3⟩ := f3 i i1 i2
    refine ⟨u1, ?_, u3⟩
    rw [mu_n (by omega)]
    exact u2
  · by_cases hz : r2 = r
    · subst hz
      refine ⟨fr, L, h5, ?_, h6, by omega, l2⟩
      rw [mu_e, l1]
    · obtain ⟨fr2, L2, u1, u2, u3, u4, u5⟩ := h3 r2 g1 g2 hz g4
      refine ⟨fr2, L2, u1, ?_, u3, by omega, u5⟩
      rw [mu_n (by omega)]
      exact u2
theorem mw_J.p91 {R : Nat → Int → Int} (hJ : mw_J R) {i z : Int} : mw_J (mu R 91 i z) := hJ
/-- a bank that is clear -/
def mw_cl (R0 R : Nat → Int → Int) (rb : Int) : Prop := mw_J R ∧ mw_fr R0 R (1 - rb) ∧ R 92 rb = 0 ∧ R 88 rb = 0 ∧ R 104 (2 * rb) = 0 ∧ R 104 (2 * rb + 1) = 0
theorem mw_cl.p100 {R0 R : Nat → Int → Int} {rb : Int} (h : mw_cl R0 R rb) {i z : Int} : mw_cl R0 (mu R 100 i z) rb := h
theorem mw_cl.Z {R0 R : Nat → Int → Int} {rb fk : Int} (h : mw_cl R0 R rb) : mw_Z R0 R rb (560 * rb) fk := by
  obtain ⟨h1, h2, h3, h4, h5, h6⟩ := h
  refine ⟨h1, h2, ⟨by omega, by omega⟩, fun r r1 r2 r3 => ?_, fun _ g g1 g2 => by omega⟩
  rcases (show r = 0 ∨ r = 1 by omega) with rfl | rfl
  · rw [show 2 * rb + 0 = 2 * rb by omega] at r3
    omega
  · omega
theorem mw_cl0 {R : Nat → Int → Int} {rb : Int} (hJ : mw_J R) (hb : 0 ≤ rb ∧ rb ≤ 1) : mw_cl R (mu (mu (mu (mu (mu (mu (mu (mu (mu (mu (mu (mu R 86 rb 12) 87 rb 0) 88 rb 0) 89 rb 0) 90 rb 0) 91 rb 0) 92 rb 0) 93 rb 0) 94 rb 0) 103 rb 0) 104 (2 * rb) 0) 104 (2 * rb + 1) 0) rb := by
  refine ⟨(((((((((((hJ.p86 (by omega)).p87 (by omega)).p88 (by omega)).p89 (by omega)).p90 (by omega)).p91).p92 (by omega)).p93 (by omega)).p94 (by omega)).p103 (by omega)).p104 (by omega)).p104 (by omega), ⟨?_, fun _ _ _ => rfl, fun i i1 i2 => ⟨rfl, rfl, ?_⟩, fun _ _ _ => rfl⟩, ?_, ?_, ?_, ?_⟩
  · refine ⟨?_, ?_, ?_⟩
    · show mu R 88 rb 0 88 (1 - rb) = R 88 (1 - rb)
      rw [mu_n (by omega)]
    · show mu R 86 rb 12 86 (1 - rb) = R 86 (1 - rb)
      rw [mu_n (by omega)]
    · show 4 ≤ mu R 86 rb 12 86 (1 - (1 - rb))
      rw [show 1 - (1 - rb) = rb by omega, mu_e]
      omega
  · show mu (mu R 104 (2 * rb) 0) 104 (2 * rb + 1) 0 104 i = R 104 i
    rw [mu_n (by omega), mu_n (by omega)]
  · show mu R 92 rb 0 92 rb = 0
    exact mu_e
  · show mu R 88 rb 0 88 rb = 0
    exact mu_e
  · show mu (mu R 104 (2 * rb) 0) 104 (2 * rb + 1) 0 104 (2 * rb) = 0
    rw [mu_n (by omega), mu_e]
  · show mu (mu R 104 (2 * rb) 0) 104 (2 * rb + 1) 0 104 (2 * rb + 1) = 0
    exact mu_e
set_option maxHeartbeats 4000000 in
set_option maxRecDepth 20000 in
theorem mw_e (hen : en_ok) {lc : Launch} {h0 h : ev_H} {E : e2_E} {B : Nat → Int} {fk a fp en tok num : Int} {nm : Nat} {cs wi pi ui : Int} {R : Nat → Int → Int} (hV : mw_V h0 h (mw_o B fk a fp en tok num nm cs wi pi ui) R) (hs : mw_ok (B 21) fk a en tok num nm) (hb : 0 ≤ B 13 ∧ B 13 ≤ 1) {R0 : Nat → Int → Int} {r : Int} {fr : Nat} (hE : mw_ZE R0 R (B 13) r fr) (hk : fk = 0) (hu : 0 ≤ ui ∧ ui ≤ 30) (hcs : cs = (fr : Int)) (hcb : cs ≤ 560 * B 13 + 9 * R 92 (B 13)) : mw_Cv lc 5 202 [(2, 83, 0)] E h (fun h' => ∃ R2 fk2 a2 fp2 en2 tok2 num2 nm2 cs2 wi2 pi2 ui2, mw_V h0 h' (mw_o B fk2 a2 fp2 en2 tok2 num2 nm2 cs2 wi2 pi2 ui2) R2 ∧ mw_ok (B 21) fk2 a2 en2 tok2 num2 nm2 ∧ mw_ZE R0 R2 (B 13) r fr ∧ mw_eL R2 (B 13) fr cs2 ∧ a ≤ a2 ∧ 0 ≤ wi2 ∧ wi2 ≤ 7 ∧ 0 ≤ pi2 ∧ pi2 ≤ 40 ∧ 0 ≤ ui2 ∧ ui2 ≤ 30) := by
  refine mw_con (D := 4) (C := evd_202) (X := e2x_202) [] hen ei_202 ex2_202 (Nat.le_of_ble_eq_true rfl) fun d0 F G hd hF hG => ?_
  show G 0 [(2, 83, 0), (9, 0, 0)] [] E h
  have hs0 := hs
  obtain ⟨s1, s2, s3, s4, s5, s6, s7, s8, s9, s10, s11, s12, s13⟩ := hs
  have l19 : ∀ (n : Nat) (h : ev_H) (R3 : Nat → Int → Int) (fk3 a3 fp3 en3 tok3 num3 : Int) (nm3 : Nat) (cs3 wi3 pi3 ui3 w : Int), mw_V h0 h (mw_o B fk3 a3 fp3 en3 tok3 num3 nm3 cs3 wi3 pi3 ui3) R3 → mw_ok (B 21) fk3 a3 en3 tok3 num3 nm3 → mw_ZE R0 R3 (B 13) r fr → ((w = 1 ∧ mw_eS R3 (B 13) fr cs3 wi3 pi3 ui3 0) ∨ (w = 0 ∧ mw_eS R3 (B 13) fr cs3 wi3 pi3 ui3 1) ∨ ((w = 0 ∨ w = 1) ∧ fk3 ≠ 0 ∧ mw_eS R3 (B 13) fr cs3 wi3 pi3 ui3 1)) → a ≤ a3 → (fk3 = 0 → 100 * (B 21 - a3) + pi3 < n) → G 19 [(2, 83, 0), mw_i w] [] E h := by
    intro n
    induction n with
    | zero =>
      intro h R3 fk3 a3 fp3 en3 tok3 num3 nm3 cs3 wi3 pi3 ui3 w hV ho hE3 hS hle hm
      have ho0 := ho
      obtain ⟨p1, p2, p3, p4, p5, p6, p7, p8, p9, p10, p11, p12, p13⟩ := ho
      obtain ⟨u0, u1, u2, u3, u4, u5, u6, u7⟩ := mw_eS3 hS
      refine mw_aload hG a202_19 rfl ?_
      refine mw_vp0 hG hV a202_20 (mw_isGood hen hV (by omega)) rfl (by omega) fun y20 hy20 => ?_
      refine mw_ifc_eq hG a202_23 (by omega) (fun z23 => ?_) (fun z23 => by exfalso; omega)
      refine mw_vret hG a202_52 (hF _ _ _ ⟨rfl, rfl, _, _, _, _, _, _, _, _, _, _, _, _, hV, ho0, hE3, u1, hle, u2, u3, u4, u5, u6, u7⟩)
    | succ n ih =>
      intro h R3 fk3 a3 fp3 en3 tok3 num3 nm3 cs3 wi3 pi3 ui3 w hV ho hE3 hS hle hm
      have ho0 := ho
      obtain ⟨p1, p2, p3, p4, p5, p6, p7, p8, p9, p10, p11, p12, p13⟩ := ho
      obtain ⟨u0, u1, u2, u3, u4, u5, u6, u7⟩ := mw_eS3 hS
      refine mw_aload hG a202_19 rfl ?_
      refine mw_vp0 hG hV a202_20 (mw_isGood hen hV (by omega)) rfl (by omega) fun y20 hy20 => ?_
      refine mw_ifc_eq hG a202_23 (by omega) (fun z23 => ?_) (fun z23 => ?_)
      · refine mw_vret hG a202_52 (hF _ _ _ ⟨rfl, rfl, _, _, _, _, _, _, _, _, _, _, _, _, hV, ho0, hE3, u1, hle, u2, u3, u4, u5, u6, u7⟩)
      · refine mw_aload hG a202_26 rfl ?_
        refine mw_geti hG hV a202_27 rfl ?_
        refine mw_ifc_le hG a202_30 (by omega) (fun z30 => ?_) (fun z30 => ?_)
        · refine mw_vret hG a202_52 (hF _ _ _ ⟨rfl, rfl, _, _, _, _, _, _, _, _, _, _, _, _, hV, ho0, hE3, u1, hle, u2, u3, u4, u5, u6, u7⟩)
        · refine mw_iload hG a202_33 rfl ?_
          refine mw_ifc_eq hG a202_34 (by omega) (fun z34 => ?_) (fun z34 => ?_)
          · refine mw_aload hG a202_44 rfl ?_
            obtain ⟨q, L, hQ⟩ : ∃ q L, mw_eQ R3 (B 13) fr cs3 wi3 pi3 ui3 1 q L := by
              rcases hS with ⟨hw, hs⟩ | ⟨hw, hs⟩ | ⟨-, hf, hs⟩
              · first | (exfalso; omega) | (rcases hs with ⟨hs, -⟩ | hs; exact absurd hs (by omega); exact hs)
              · first | (exfalso; omega) | (rcases hs with ⟨hs, -⟩ | hs; exact absurd hs (by omega); exact hs)
              · exfalso; omega
            refine mw_vi0 hG hV a202_45 (mw_behindUnit hen hV ho0 hb hE3 hQ (by omega)) rfl (by omega) fun y45 h hq45 => ?_
            obtain ⟨R45, fk45, a45, fp45, en45, tok45, num45, nm45, cs45, wi45, pi45, ui45, hV, ho45, hE45, hS45, f45, e45⟩ := hq45
            obtain ⟨t45, r45, r45a, r45b, r45c, r45d, r45e, r45f⟩ := mw_eS3 hS45
            have i45 := (id ho45).2.2.1
            have j45 : a45 ≤ en45 := (id ho45).2.1
            refine mw_istore hG a202_48 rfl (Nat.le_of_ble_eq_true rfl) rfl ?_
            refine mw_goto hG a202_49 ?_
            first | exact ih _ _ _ _ _ _ _ _ _ _ _ _ _ _ hV ho45 hE38 hS38 (by omega) (by omega) | exact ih _ _ _ _ _ _ _ _ _ _ _ _ _ _ hV ho45 hE45 hS45 (by omega) (by omega)
          · refine mw_aload hG a202_37 rfl ?_
            obtain ⟨q, L, hQ⟩ : ∃ q L, mw_eQ R3 (B 13) fr cs3 wi3 pi3 ui3 0 q L := by
              rcases hS with ⟨hw, hs⟩ | ⟨hw, hs⟩ | ⟨-, hf, hs⟩
              · first | (exfalso; omega) | (rcases hs with ⟨hs, -⟩ | hs; exact absurd hs (by omega); exact hs)
              · first | (exfalso; omega) | (rcases hs with ⟨hs, -⟩ | hs; exact absurd hs (by omega); exact hs)
              · exfalso; omega
            refine mw_vi0 hG hV a202_38 (mw_unit hen hV ho0 hb hE3 hQ (by omega)) rfl (by omega) fun y38 h hq38 => ?_
            obtain ⟨R38, fk38, a38, fp38, en38, tok38, num38, nm38, cs38, wi38, pi38, ui38, hV, ho38, hE38, hS38, f38, e38⟩ := hq38
            obtain ⟨t38, r38, r38a, r38b, r38c, r38d, r38e, r38f⟩ := mw_eS3 hS38
            have i38 := (id ho38).2.2.1
            have j38 : a38 ≤ en38 := (id ho38).2.1
            refine mw_goto hG a202_41 ?_
            refine mw_istore hG a202_48 rfl (Nat.le_of_ble_eq_true rfl) rfl ?_
            refine mw_goto hG a202_49 ?_
            first | exact ih _ _ _ _ _ _ _ _ _ _ _ _ _ _ hV ho38 hE38 hS38 (by omega) (by omega) | exact ih _ _ _ _ _ _ _ _ _ _ _ _ _ _ hV ho38 hE45 hS45 (by omega) (by omega)
  have hfr : 560 * B 13 ≤ (fr : Int) := hE.2.2.2.2.2
  have hU := hE.1.g92 (i := B 13) (by omega)
  refine mw_aload hG a202_0 rfl ?_
  refine mw_push hG a202_1 mw_c0 ?_
  refine mw_putf hG hV a202_2 (Nat.le_of_ble_eq_true rfl) mw_s59 fun h hV => ?_
  refine mw_aload hG a202_5 rfl ?_
  refine mw_push hG a202_6 mw_c0 ?_
  refine mw_putf hG hV a202_7 (Nat.le_of_ble_eq_true rfl) mw_s58 fun h hV => ?_
  refine mw_aload hG a202_10 rfl ?_
  refine mw_push hG a202_11 mw_c8 ?_
  refine mw_push hG a202_13 mw_c0 ?_
  refine mw_vv2 hG hV a202_14 (mw_pushE hen hV (by omega)) rfl (by omega) fun h hV => ?_
  refine mw_push hG a202_17 mw_c1 ?_
  refine mw_istore hG a202_18 rfl (Nat.le_of_ble_eq_true rfl) rfl ?_
  refine l19 (100 * (B 21 - a) + 2).toNat _ _ _ _ _ _ _ _ _ _ _ _ _ _ hV hs0 hE.psh (Or.inl ⟨rfl, Or.inr ⟨0, 0, ?_⟩⟩) (by omega) (by omega)
  exact ⟨rfl, by show (0 : Int) + ((0 : Nat) : Int) = ((0 : Nat) : Int); omega, by omega, by omega, ⟨(show mu R 109 0 8 109 0 = 8 from mu_e), fun k k1 k2 => by omega⟩, by omega, fun m hm => absurd hm (by omega), rfl, (show ((0 + 0 : Nat) : Int) ≤ ui by omega), by omega, fun _ => (show cs + ((0 : Nat) : Int) ≤ 560 * B 13 + 9 * R 92 (B 13) by omega), fun z => absurd z (by omega)⟩
set_option maxHeartbeats 4000000 in
set_option maxRecDepth 20000 in
theorem mw_readRule (hen : en_ok) {lc : Launch} {h0 h : ev_H} {E : e2_E} {B : Nat → Int} {fk a fp en tok num : Int} {nm : Nat} {cs wi pi ui : Int} {R : Nat → Int → Int} (hV : mw_V h0 h (mw_o B fk a fp en tok num nm cs wi pi ui) R) (hs : mw_ok (B 21) fk a en tok num nm) (hb : 0 ≤ B 13 ∧ B 13 ≤ 1) {R0 : Nat → Int → Int} (hZ : mw_Z R0 R (B 13) cs fk) {r : Int} (hr : 0 ≤ r ∧ r ≤ 1) (hk : fk = 0) : mw_Cv lc 6 199 [(2, 83, 0), mw_i r] E h (fun h' => ∃ R2 fk2 a2 fp2 en2 tok2 num2 nm2 cs2 wi2 pi2 ui2, mw_V h0 h' (mw_o B fk2 a2 fp2 en2 tok2 num2 nm2 cs2 wi2 pi2 ui2) R2 ∧ mw_ok (B 21) fk2 a2 en2 tok2 num2 nm2 ∧ mw_Z R0 R2 (B 13) cs2 fk2 ∧ a ≤ a2 ∧ 0 ≤ wi2 ∧ wi2 ≤ 7 ∧ 0 ≤ pi2 ∧ pi2 ≤ 40 ∧ 0 ≤ ui2 ∧ ui2 ≤ 30) := by
  refine mw_con (D := 5) (C := evd_199) (X := hx_199) [] hen ei_199 hxe_199 (Nat.le_of_ble_eq_true rfl) fun d0 F G hd hF hG => ?_
  show G 0 [(2, 83, 0), mw_i r] [] E h
  have hs0 := hs
  obtain ⟨s1, s2, s3, s4, s5, s6, s7, s8, s9, s10, s11, s12, s13⟩ := hs
  have hU := hZ.1.g92 (i := B 13) (by omega)
  have hbd := hZ.2.2.1
  refine mw_aload hG a199_0 rfl ?_
  refine mw_push hG a199_1 mw_c0 ?_
  refine mw_putf hG hV a199_2 (Nat.le_of_ble_eq_true rfl) mw_s60 fun h hV => ?_
  refine mw_aload hG a199_5 rfl ?_
  refine mw_geta hG hV a199_6 rfl ?_
  refine mw_push hG a199_9 mw_c2 ?_
  refine mw_aload hG a199_10 rfl ?_
  refine mw_geti hG hV a199_11 rfl ?_
  refine mw_mul hG a199_14 ?_
  refine mw_iload hG a199_15 rfl ?_
  refine mw_add hG a199_16 ?_
  refine mw_push hG a199_17 mw_c1 ?_
  refine mw_bast hG hV a199_18 rfl (Or.inr ⟨rfl, by omega, by omega⟩) (by omega) fun h hV => ?_
  refine mw_aload hG a199_19 rfl ?_
  refine mw_geta hG hV a199_20 rfl ?_
  refine mw_push hG a199_23 mw_c2 ?_
  refine mw_aload hG a199_24 rfl ?_
  refine mw_geti hG hV a199_25 rfl ?_
  refine mw_mul hG a199_28 ?_
  refine mw_iload hG a199_29 rfl ?_
  refine mw_add hG a199_30 ?_
  refine mw_aload hG a199_31 rfl ?_
  refine mw_geti hG hV a199_32 rfl ?_
  refine mw_iast hG hV a199_35 rfl (by omega) fun h hV => ?_
  refine mw_aload hG a199_36 rfl ?_
  refine mw_vv0 hG hV a199_37 (mw_e hen hV hs0 hb (hZ.toE (r := r) hk hb hr (by omega)) hk (by omega) (by omega) (show cs ≤ 560 * B 13 + 9 * R 92 (B 13) by omega)) rfl (by omega) fun h hq37 => ?_
  obtain ⟨R37, fk37, a37, fp37, en37, tok37, num37, nm37, cs37, wi37, pi37, ui37, hV, ho37, hE37, hL37, f37, r37a, r37b, r37c, r37d, r37e, r37f⟩ := hq37
  refine mw_aload hG a199_40 rfl ?_
  refine mw_geta hG hV a199_41 rfl ?_
  refine mw_push hG a199_44 mw_c2 ?_
  refine mw_aload hG a199_45 rfl ?_
  refine mw_geti hG hV a199_46 rfl ?_
  refine mw_mul hG a199_49 ?_
  refine mw_iload hG a199_50 rfl ?_
  refine mw_add hG a199_51 ?_
  refine mw_aload hG a199_52 rfl ?_
  refine mw_geti hG hV a199_53 rfl ?_
  refine mw_iast hG hV a199_56 rfl (by omega) fun h hV => ?_
  refine mw_vret hG a199_57 (hF _ _ _ ⟨rfl, rfl, _, _, _, _, _, _, _, _, _, _, _, _, hV, ho37, hE37.toZ hb hr hL37, f37, r37a, r37b, r37c, r37d, r37e, r37f⟩)
set_option maxHeartbeats 4000000 in
set_option maxRecDepth 20000 in
theorem mw_clearBank (hen : en_ok) {lc : Launch} {h0 h : ev_H} {E : e2_E} {B : Nat → Int} {fk a fp en tok num : Int} {nm : Nat} {cs wi pi ui : Int} {R : Nat → Int → Int} (hV : mw_V h0 h (mw_o B fk a fp en tok num nm cs wi pi ui) R) (hb : 0 ≤ B 13 ∧ B 13 ≤ 1) (hJ : mw_J R) : mw_Cv lc 1 14 [(2, 83, 0)] E h (fun h' => ∃ R2, mw_V h0 h' (mw_o B fk a fp en tok num nm (560 * B 13) wi pi ui) R2 ∧ mw_cl R R2 (B 13)) := by
  refine mw_con (D := 0) (C := evd_14) (X := hx_14) [] hen ei_14 hxe_14 (Nat.le_of_ble_eq_true rfl) fun d0 F G hd hF hG => ?_
  show G 0 [(2, 83, 0), (9, 0, 0)] [] E h
  have l129 : ∀ (n : Nat) (i : Int) (h : ev_H) (R3 : Nat → Int → Int), mw_V h0 h (mw_o B fk a fp en tok num nm cs wi pi ui) R3 → mw_cl R R3 (B 13) → 0 ≤ i → i + n = 8 → G 129 [(2, 83, 0), mw_i i] [] E h := by
    intro n
    induction n with
    | zero =>
      intro i h R3 hV hc h1 h2
      refine mw_iload hG a14_129 rfl ?_
      refine mw_push hG a14_130 mw_c8 ?_
      refine mw_icmp_ge hG a14_132 (by omega) (by omega) (fun z132 => ?_) (fun z132 => by exfalso; omega)
      refine mw_aload hG a14_156 rfl ?_
      refine mw_push hG a14_157 mw_c560 ?_
      refine mw_aload hG a14_160 rfl ?_
      refine mw_geti hG hV a14_161 rfl ?_
      refine mw_mul hG a14_164 ?_
      refine mw_putf hG hV a14_165 (Nat.le_of_ble_eq_true rfl) mw_s57 fun h hV => ?_
      refine mw_vret hG a14_168 (hF _ _ _ ⟨rfl, rfl, _, hV, hc⟩)
    | succ n ih =>
      intro i h R3 hV hc h1 h2
      refine mw_iload hG a14_129 rfl ?_
      refine mw_push hG a14_130 mw_c8 ?_
      refine mw_icmp_ge hG a14_132 (by omega) (by omega) (fun z132 => by exfalso; omega) (fun z132 => ?_)
      refine mw_aload hG a14_135 rfl ?_
      refine mw_geta hG hV a14_136 rfl ?_
      refine mw_push hG a14_139 mw_c8 ?_
      refine mw_aload hG a14_141 rfl ?_
      refine mw_geti hG hV a14_142 rfl ?_
      refine mw_mul hG a14_145 ?_
      refine mw_iload hG a14_146 rfl ?_
      refine mw_add hG a14_147 ?_
      refine mw_push hG a14_148 mw_c0 ?_
      refine mw_iast hG hV a14_149 rfl (by omega) fun h hV => ?_
      refine mw_iinc hG a14_150 mw_c1 rfl rfl rfl ?_
      refine mw_goto hG a14_153 ?_
      exact ih _ _ _ hV hc.p100 (by omega) (by omega)
  refine mw_aload hG a14_0 rfl ?_
  refine mw_geta hG hV a14_1 rfl ?_
  refine mw_aload hG a14_4 rfl ?_
  refine mw_geti hG hV a14_5 rfl ?_
  refine mw_push hG a14_8 mw_c12 ?_
  refine mw_iast hG hV a14_10 rfl (by omega) fun h hV => ?_
  refine mw_aload hG a14_11 rfl ?_
  refine mw_geta hG hV a14_12 rfl ?_
  refine mw_aload hG a14_15 rfl ?_
  refine mw_geti hG hV a14_16 rfl ?_
  refine mw_push hG a14_19 mw_c0 ?_
  refine mw_iast hG hV a14_20 rfl (by omega) fun h hV => ?_
  refine mw_aload hG a14_21 rfl ?_
  refine mw_geta hG hV a14_22 rfl ?_
  refine mw_aload hG a14_25 rfl ?_
  refine mw_geti hG hV a14_26 rfl ?_
  refine mw_push hG a14_29 mw_c0 ?_
  refine mw_iast hG hV a14_30 rfl (by omega) fun h hV => ?_
  refine mw_aload hG a14_31 rfl ?_
  refine mw_geta hG hV a14_32 rfl ?_
  refine mw_aload hG a14_35 rfl ?_
  refine mw_geti hG hV a14_36 rfl ?_
  refine mw_push hG a14_39 mw_c0 ?_
  refine mw_iast hG hV a14_40 rfl (by omega) fun h hV => ?_
  refine mw_aload hG a14_41 rfl ?_
  refine mw_geta hG hV a14_42 rfl ?_
  refine mw_aload hG a14_45 rfl ?_
  refine mw_geti hG hV a14_46 rfl ?_
  refine mw_push hG a14_49 mw_c0 ?_
  refine mw_iast hG hV a14_50 rfl (by omega) fun h hV => ?_
  refine mw_aload hG a14_51 rfl ?_
  refine mw_geta hG hV a14_52 rfl ?_
  refine mw_aload hG a14_55 rfl ?_
  refine mw_geti hG hV a14_56 rfl ?_
  refine mw_push hG a14_59 mw_c0 ?_
  refine mw_iast hG hV a14_60 rfl (by omega) fun h hV => ?_
  refine mw_aload hG a14_61 rfl ?_
  refine mw_geta hG hV a14_62 rfl ?_
  refine mw_aload hG a14_65 rfl ?_
  refine mw_geti hG hV a14_66 rfl ?_
  refine mw_push hG a14_69 mw_c0 ?_
  refine mw_iast hG hV a14_70 rfl (by omega) fun h hV => ?_
  refine mw_aload hG a14_71 rfl ?_
  refine mw_geta hG hV a14_72 rfl ?_
  refine mw_aload hG a14_75 rfl ?_
  refine mw_geti hG hV a14_76 rfl ?_
  refine mw_push hG a14_79 mw_c0 ?_
  refine mw_iast hG hV a14_80 rfl (by omega) fun h hV => ?_
  refine mw_aload hG a14_81 rfl ?_
  refine mw_geta hG hV a14_82 rfl ?_
  refine mw_aload hG a14_85 rfl ?_
  refine mw_geti hG hV a14_86 rfl ?_
  refine mw_push hG a14_89 mw_c0 ?_
  refine mw_iast hG hV a14_90 rfl (by omega) fun h hV => ?_
  refine mw_aload hG a14_91 rfl ?_
  refine mw_geta hG hV a14_92 rfl ?_
  refine mw_aload hG a14_95 rfl ?_
  refine mw_geti hG hV a14_96 rfl ?_
  refine mw_push hG a14_99 mw_c0 ?_
  refine mw_bast hG hV a14_100 rfl (Or.inr ⟨rfl, by omega, by omega⟩) (by omega) fun h hV => ?_
  refine mw_aload hG a14_101 rfl ?_
  refine mw_geta hG hV a14_102 rfl ?_
  refine mw_push hG a14_105 mw_c2 ?_
  refine mw_aload hG a14_106 rfl ?_
  refine mw_geti hG hV a14_107 rfl ?_
  refine mw_mul hG a14_110 ?_
  refine mw_push hG a14_111 mw_c0 ?_
  refine mw_bast hG hV a14_112 rfl (Or.inr ⟨rfl, by omega, by omega⟩) (by omega) fun h hV => ?_
  refine mw_aload hG a14_113 rfl ?_
  refine mw_geta hG hV a14_114 rfl ?_
  refine mw_push hG a14_117 mw_c2 ?_
  refine mw_aload hG a14_118 rfl ?_
  refine mw_geti hG hV a14_119 rfl ?_
  refine mw_mul hG a14_122 ?_
  refine mw_push hG a14_123 mw_c1 ?_
  refine mw_add hG a14_124 ?_
  refine mw_push hG a14_125 mw_c0 ?_
  refine mw_bast hG hV a14_126 rfl (Or.inr ⟨rfl, by omega, by omega⟩) (by omega) fun h hV => ?_
  refine mw_push hG a14_127 mw_c0 ?_
  refine mw_istore hG a14_128 rfl (Nat.le_of_ble_eq_true rfl) rfl ?_
  exact l129 8 _ _ _ hV (mw_cl0 hJ hb) (by omega) (by omega)
set_option maxHeartbeats 8000000 in
set_option maxRecDepth 20000 in
theorem mw_readLine (hen : en_ok) {lc : Launch} {h0 h : ev_H} {E : e2_E} {B : Nat → Int} {fk a fp en tok num : Int} {nm : Nat} {cs wi pi ui : Int} {R : Nat → Int → Int} (hV : mw_V h0 h (mw_o B fk a fp en tok num nm cs wi pi ui) R) (hs : mw_ok (B 21) fk a en tok num nm) (hb : 0 ≤ B 13 ∧ B 13 ≤ 1) {R0 : Nat → Int → Int} (hZ : mw_Z R0 R (B 13) cs fk) (hk : fk = 0) (ht : tok ≠ 0) (hw : -1600 ≤ wi ∧ wi ≤ 7 ∧ 0 ≤ pi ∧ pi ≤ 90 ∧ 0 ≤ ui ∧ ui ≤ 30) : mw_Cv lc 7 187 [(2, 83, 0)] E h (fun h' => ∃ R2 fk2 a2 fp2 en2 tok2 num2 nm2 cs2 wi2 pi2 ui2, mw_V h0 h' (mw_o B fk2 a2 fp2 en2 tok2 num2 nm2 cs2 wi2 pi2 ui2) R2 ∧ mw_ok (B 21) fk2 a2 en2 tok2 num2 nm2 ∧ mw_Z R0 R2 (B 13) cs2 fk2 ∧ (-1600 ≤ wi2 ∧ wi2 ≤ 7 ∧ 0 ≤ pi2 ∧ pi2 ≤ 90 ∧ 0 ≤ ui2 ∧ ui2 ≤ 30) ∧ (fk2 = 0 → a < a2)) := by
  refine mw_con (D := 6) (C := evd_187) (X := hx_187) [] hen ei_187 hxe_187 (Nat.le_of_ble_eq_true rfl) fun d0 F G hd hF hG => ?_
  show G 0 [(2, 83, 0), (9, 0, 0), (9, 0, 0)] [] E h
  have hs0 := hs
  obtain ⟨s1, s2, s3, s4, s5, s6, s7, s8, s9, s10, s11, s12, s13⟩ := hs
  have t182 : ∀ (h : ev_H) (R2 : Nat → Int → Int) (fk2 a2 fp2 en2 tok2 num2 : Int) (nm2 : Nat) (cs2 wi2 pi2 ui2 : Int), mw_V h0 h (mw_o B fk2 a2 fp2 en2 tok2 num2 nm2 cs2 wi2 pi2 ui2) R2 → mw_ok (B 21) fk2 a2 en2 tok2 num2 nm2 → mw_Z R0 R2 (B 13) cs2 fk2 → (-1600 ≤ wi2 ∧ wi2 ≤ 7 ∧ 0 ≤ pi2 ∧ pi2 ≤ 90 ∧ 0 ≤ ui2 ∧ ui2 ≤ 30) → a < a2 → G 182 [(2, 83, 0), (4, nm, 0), (9, 0, 0)] [] E h := by
    intro h R2 fk2 a2 fp2 en2 tok2 num2 nm2 cs2 wi2 pi2 ui2 hV ho hZ2 hrg hle
    have ho0 := ho
    obtain ⟨p1, p2, p3, p4, p5, p6, p7, p8, p9, p10, p11, p12, p13⟩ := ho
    refine mw_aload hG a187_182 rfl ?_
    refine mw_aload hG a187_183 rfl ?_
    refine mw_push hG a187_184 mw_c59 ?_
    refine mw_vp1 hG hV a187_186 (mw_isSignHere hen hV ho0 (by omega)) rfl (by omega) fun y186 hy186 => ?_
    refine mw_vv1 hG hV a187_189 (mw_must hen hV ho0 (by omega)) rfl (by omega) fun h hq189 => ?_
    obtain ⟨fk189, a189, fp189, en189, tok189, num189, nm189, hV, ho189, f189, e189, d189, c189⟩ := hq189
    refine mw_vret hG a187_192 (hF _ _ _ ⟨rfl, rfl, _, _, _, _, _, _, _, _, _, _, _, _, hV, ho189, hZ2.fk (by omega), by omega, by omega⟩)
  have t147 : ∀ (h : ev_H) (R2 : Nat → Int → Int) (fk2 a2 fp2 en2 tok2 num2 : Int) (nm2 : Nat) (cs2 wi2 pi2 ui2 : Int), mw_V h0 h (mw_o B fk2 a2 fp2 en2 tok2 num2 nm2 cs2 wi2 pi2 ui2) R2 → mw_ok (B 21) fk2 a2 en2 tok2 num2 nm2 → mw_Z R0 R2 (B 13) cs2 fk2 → (-1600 ≤ wi2 ∧ wi2 ≤ 7 ∧ 0 ≤ pi2 ∧ pi2 ≤ 90 ∧ 0 ≤ ui2 ∧ ui2 ≤ 30) → a < a2 → G 147 [(2, 83, 0), (4, nm, 0), (9, 0, 0)] [] E h := by
    intro h R2 fk2 a2 fp2 en2 tok2 num2 nm2 cs2 wi2 pi2 ui2 hV ho hZ2 hrg hle
    have ho0 := ho
    obtain ⟨p1, p2, p3, p4, p5, p6, p7, p8, p9, p10, p11, p12, p13⟩ := ho
    refine mw_lload hG a187_147 rfl rfl ?_
    refine mw_pushl hG a187_148 ?_
    refine mw_lcmp hG a187_151 (by omega) (by omega) fun y151 hy151 hz151 => ?_
    refine mw_ifc_ne hG a187_152 (by omega) (fun z152 => ?_) (fun z152 => ?_)
    · first | exact t182 _ _ _ _ _ _ _ _ _ _ _ _ _ hV ho0 (((hZ2.p103 (by omega)).p93 (by omega)).fk (by omega)) (by omega) (by omega) | exact t182 _ _ _ _ _ _ _ _ _ _ _ _ _ hV ho0 hZ2 (by omega) (by omega)
    · refine mw_aload hG a187_155 rfl ?_
      refine mw_geta hG hV a187_156 rfl ?_
      refine mw_aload hG a187_159 rfl ?_
      refine mw_geti hG hV a187_160 rfl ?_
      refine mw_push hG a187_163 mw_c1 ?_
      refine mw_bast hG hV a187_164 rfl (Or.inr ⟨rfl, by omega, by omega⟩) (by omega) fun h hV => ?_
      refine mw_aload hG a187_165 rfl ?_
      refine mw_geta hG hV a187_166 rfl ?_
      refine mw_aload hG a187_169 rfl ?_
      refine mw_geti hG hV a187_170 rfl ?_
      refine mw_aload hG a187_173 rfl ?_
      refine mw_push hG a187_174 mw_c0 ?_
      refine mw_push hG a187_175 mw_c999 ?_
      refine mw_vi2 hG hV a187_178 (mw_numeral hen hV ho0 (by omega)) rfl (by omega) fun v178 h hq178 => ?_
      obtain ⟨fk178, a178, fp178, en178, tok178, num178, nm178, hV, ho178, f178, e178, d178, c178, l178, u178⟩ := hq178
      refine mw_iast hG hV a187_181 rfl (by omega) fun h hV => ?_
      first | exact t182 _ _ _ _ _ _ _ _ _ _ _ _ _ hV ho178 (((hZ2.p103 (by omega)).p93 (by omega)).fk (by omega)) (by omega) (by omega) | exact t182 _ _ _ _ _ _ _ _ _ _ _ _ _ hV ho178 hZ2 (by omega) (by omega)
  have t134 : ∀ (h : ev_H) (R2 : Nat → Int → Int) (fk2 a2 fp2 en2 tok2 num2 : Int) (nm2 : Nat) (cs2 wi2 pi2 ui2 : Int), mw_V h0 h (mw_o B fk2 a2 fp2 en2 tok2 num2 nm2 cs2 wi2 pi2 ui2) R2 → mw_ok (B 21) fk2 a2 en2 tok2 num2 nm2 → mw_Z R0 R2 (B 13) cs2 fk2 → (-1600 ≤ wi2 ∧ wi2 ≤ 7 ∧ 0 ≤ pi2 ∧ pi2 ≤ 90 ∧ 0 ≤ ui2 ∧ ui2 ≤ 30) → a < a2 → (nm = 1735552887 → fk2 = 0) → G 134 [(2, 83, 0), (4, nm, 0), (9, 0, 0)] [] E h := by
    intro h R2 fk2 a2 fp2 en2 tok2 num2 nm2 cs2 wi2 pi2 ui2 hV ho hZ2 hrg hle cg
    have ho0 := ho
    obtain ⟨p1, p2, p3, p4, p5, p6, p7, p8, p9, p10, p11, p12, p13⟩ := ho
    refine mw_lload hG a187_134 rfl rfl ?_
    refine mw_pushl hG a187_135 ?_
    refine mw_lcmp hG a187_138 (by omega) (by omega) fun y138 hy138 hz138 => ?_
    refine mw_ifc_ne hG a187_139 (by omega) (fun z139 => ?_) (fun z139 => ?_)
    · first | exact t147 _ _ _ _ _ _ _ _ _ _ _ _ _ hV ho0 Z144 (by omega) (by omega) | exact t147 _ _ _ _ _ _ _ _ _ _ _ _ _ hV ho0 hZ2 (by omega) (by omega)
    · refine mw_aload hG a187_142 rfl ?_
      refine mw_push hG a187_143 mw_c1 ?_
      refine mw_vv1 hG hV a187_144 (mw_readRule hen hV ho0 hb hZ2 (by omega) (by omega)) rfl (by omega) fun h hq144 => ?_
      obtain ⟨R144, fk144, a144, fp144, en144, tok144, num144, nm144, cs144, wi144, pi144, ui144, hV, ho144, Z144, f144, r144⟩ := hq144
      first | exact t147 _ _ _ _ _ _ _ _ _ _ _ _ _ hV ho144 Z144 (by omega) (by omega) | exact t147 _ _ _ _ _ _ _ _ _ _ _ _ _ hV ho144 hZ2 (by omega) (by omega)
  have t121 : ∀ (h : ev_H) (R2 : Nat → Int → Int) (fk2 a2 fp2 en2 tok2 num2 : Int) (nm2 : Nat) (cs2 wi2 pi2 ui2 : Int), mw_V h0 h (mw_o B fk2 a2 fp2 en2 tok2 num2 nm2 cs2 wi2 pi2 ui2) R2 → mw_ok (B 21) fk2 a2 en2 tok2 num2 nm2 → mw_Z R0 R2 (B 13) cs2 fk2 → (-1600 ≤ wi2 ∧ wi2 ≤ 7 ∧ 0 ≤ pi2 ∧ pi2 ≤ 90 ∧ 0 ≤ ui2 ∧ ui2 ≤ 30) → a < a2 → (nm = 512802514792 → fk2 = 0) → (nm = 1735552887 → fk2 = 0) → G 121 [(2, 83, 0), (4, nm, 0), (9, 0, 0)] [] E h := by
    intro h R2 fk2 a2 fp2 en2 tok2 num2 nm2 cs2 wi2 pi2 ui2 hV ho hZ2 hrg hle cw cg
    have ho0 := ho
    obtain ⟨p1, p2, p3, p4, p5, p6, p7, p8, p9, p10, p11, p12, p13⟩ := ho
    refine mw_lload hG a187_121 rfl rfl ?_
    refine mw_pushl hG a187_122 ?_
    refine mw_lcmp hG a187_125 (by omega) (by omega) fun y125 hy125 hz125 => ?_
    refine mw_ifc_ne hG a187_126 (by omega) (fun z126 => ?_) (fun z126 => ?_)
    · first | exact t134 _ _ _ _ _ _ _ _ _ _ _ _ _ hV ho0 Z131 (by omega) (by omega) (by omega) | exact t134 _ _ _ _ _ _ _ _ _ _ _ _ _ hV ho0 hZ2 (by omega) (by omega) (by omega)
    · refine mw_aload hG a187_129 rfl ?_
      refine mw_push hG a187_130 mw_c0 ?_
      refine mw_vv1 hG hV a187_131 (mw_readRule hen hV ho0 hb hZ2 (by omega) (by omega)) rfl (by omega) fun h hq131 => ?_
      obtain ⟨R131, fk131, a131, fp131, en131, tok131, num131, nm131, cs131, wi131, pi131, ui131, hV, ho131, Z131, f131, r131⟩ := hq131
      first | exact t134 _ _ _ _ _ _ _ _ _ _ _ _ _ hV ho131 Z131 (by omega) (by omega) (by omega) | exact t134 _ _ _ _ _ _ _ _ _ _ _ _ _ hV ho131 hZ2 (by omega) (by omega) (by omega)
  have t109 : ∀ (h : ev_H) (R2 : Nat → Int → Int) (fk2 a2 fp2 en2 tok2 num2 : Int) (nm2 : Nat) (cs2 wi2 pi2 ui2 : Int), mw_V h0 h (mw_o B fk2 a2 fp2 en2 tok2 num2 nm2 cs2 wi2 pi2 ui2) R2 → mw_ok (B 21) fk2 a2 en2 tok2 num2 nm2 → mw_Z R0 R2 (B 13) cs2 fk2 → (-1600 ≤ wi2 ∧ wi2 ≤ 7 ∧ 0 ≤ pi2 ∧ pi2 ≤ 90 ∧ 0 ≤ ui2 ∧ ui2 ≤ 30) → a < a2 → (nm = 512802514792 → fk2 = 0) → (nm = 1735552887 → fk2 = 0) → G 109 [(2, 83, 0), (4, nm, 0), (9, 0, 0)] [] E h := by
    intro h R2 fk2 a2 fp2 en2 tok2 num2 nm2 cs2 wi2 pi2 ui2 hV ho hZ2 hrg hle cw cg
    have ho0 := ho
    obtain ⟨p1, p2, p3, p4, p5, p6, p7, p8, p9, p10, p11, p12, p13⟩ := ho
    refine mw_lload hG a187_109 rfl rfl ?_
    refine mw_pushl hG a187_110 ?_
    refine mw_lcmp hG a187_113 (by omega) (by omega) fun y113 hy113 hz113 => ?_
    refine mw_ifc_ne hG a187_114 (by omega) (fun z114 => ?_) (fun z114 => ?_)
    · first | exact t121 _ _ _ _ _ _ _ _ _ _ _ _ _ hV ho0 Z118 (by omega) (by omega) (by omega) (by omega) | exact t121 _ _ _ _ _ _ _ _ _ _ _ _ _ hV ho0 hZ2 (by omega) (by omega) (by omega) (by omega)
    · refine mw_aload hG a187_117 rfl ?_
      refine mw_vv0 hG hV a187_118 (mw_readBarn hen hV ho0 hb hZ2) rfl (by omega) fun h hq118 => ?_
      obtain ⟨R118, fk118, a118, fp118, en118, tok118, num118, nm118, hV, ho118, f118, e118, d118, Z118⟩ := hq118
      first | exact t121 _ _ _ _ _ _ _ _ _ _ _ _ _ hV ho118 Z118 (by omega) (by omega) (by omega) (by omega) | exact t121 _ _ _ _ _ _ _ _ _ _ _ _ _ hV ho118 hZ2 (by omega) (by omega) (by omega) (by omega)
  have t97 : ∀ (h : ev_H) (R2 : Nat → Int → Int) (fk2 a2 fp2 en2 tok2 num2 : Int) (nm2 : Nat) (cs2 wi2 pi2 ui2 : Int), mw_V h0 h (mw_o B fk2 a2 fp2 en2 tok2 num2 nm2 cs2 wi2 pi2 ui2) R2 → mw_ok (B 21) fk2 a2 en2 tok2 num2 nm2 → mw_Z R0 R2 (B 13) cs2 fk2 → (-1600 ≤ wi2 ∧ wi2 ≤ 7 ∧ 0 ≤ pi2 ∧ pi2 ≤ 90 ∧ 0 ≤ ui2 ∧ ui2 ≤ 30) → a < a2 → (nm = 512802514792 → fk2 = 0) → (nm = 1735552887 → fk2 = 0) → G 97 [(2, 83, 0), (4, nm, 0), (9, 0, 0)] [] E h := by
    intro h R2 fk2 a2 fp2 en2 tok2 num2 nm2 cs2 wi2 pi2 ui2 hV ho hZ2 hrg hle cw cg
    have ho0 := ho
    obtain ⟨p1, p2, p3, p4, p5, p6, p7, p8, p9, p10, p11, p12, p13⟩ := ho
    refine mw_lload hG a187_97 rfl rfl ?_
    refine mw_pushl hG a187_98 ?_
    refine mw_lcmp hG a187_101 (by omega) (by omega) fun y101 hy101 hz101 => ?_
    refine mw_ifc_ne hG a187_102 (by omega) (fun z102 => ?_) (fun z102 => ?_)
    · first | exact t109 _ _ _ _ _ _ _ _ _ _ _ _ _ hV ho0 Z106 (by omega) (by omega) (by omega) (by omega) | exact t109 _ _ _ _ _ _ _ _ _ _ _ _ _ hV ho0 hZ2 (by omega) (by omega) (by omega) (by omega)
    · refine mw_aload hG a187_105 rfl ?_
      refine mw_vv0 hG hV a187_106 (mw_readNever hen hV ho0 hb hZ2) rfl (by omega) fun h hq106 => ?_
      obtain ⟨R106, fk106, a106, fp106, en106, tok106, num106, nm106, hV, ho106, f106, e106, d106, Z106⟩ := hq106
      first | exact t109 _ _ _ _ _ _ _ _ _ _ _ _ _ hV ho106 Z106 (by omega) (by omega) (by omega) (by omega) | exact t109 _ _ _ _ _ _ _ _ _ _ _ _ _ hV ho106 hZ2 (by omega) (by omega) (by omega) (by omega)
  have t85 : ∀ (h : ev_H) (R2 : Nat → Int → Int) (fk2 a2 fp2 en2 tok2 num2 : Int) (nm2 : Nat) (cs2 wi2 pi2 ui2 : Int), mw_V h0 h (mw_o B fk2 a2 fp2 en2 tok2 num2 nm2 cs2 wi2 pi2 ui2) R2 → mw_ok (B 21) fk2 a2 en2 tok2 num2 nm2 → mw_Z R0 R2 (B 13) cs2 fk2 → (-1600 ≤ wi2 ∧ wi2 ≤ 7 ∧ 0 ≤ pi2 ∧ pi2 ≤ 90 ∧ 0 ≤ ui2 ∧ ui2 ≤ 30) → a < a2 → (nm = 1936287598 → R2 88 (B 13) < 8) → (nm = 512802514792 → fk2 = 0) → (nm = 1735552887 → fk2 = 0) → G 85 [(2, 83, 0), (4, nm, 0), (9, 0, 0)] [] E h := by
    intro h R2 fk2 a2 fp2 en2 tok2 num2 nm2 cs2 wi2 pi2 ui2 hV ho hZ2 hrg hle cs9 cw cg
    have ho0 := ho
    obtain ⟨p1, p2, p3, p4, p5, p6, p7, p8, p9, p10, p11, p12, p13⟩ := ho
    refine mw_lload hG a187_85 rfl rfl ?_
    refine mw_pushl hG a187_86 ?_
    refine mw_lcmp hG a187_89 (by omega) (by omega) fun y89 hy89 hz89 => ?_
    refine mw_ifc_ne hG a187_90 (by omega) (fun z90 => ?_) (fun z90 => ?_)
    · first | exact t97 _ _ _ _ _ _ _ _ _ _ _ _ _ hV ho0 Z94 (by omega) (by omega) (by omega) (by omega) | exact t97 _ _ _ _ _ _ _ _ _ _ _ _ _ hV ho0 hZ2 (by omega) (by omega) (by omega) (by omega)
    · refine mw_aload hG a187_93 rfl ?_
      refine mw_vv0 hG hV a187_94 (mw_readGlyph hen hV ho0 hb hZ2 (by omega)) rfl (by omega) fun h hq94 => ?_
      obtain ⟨R94, fk94, a94, fp94, en94, tok94, num94, nm94, hV, ho94, f94, e94, d94, Z94⟩ := hq94
      first | exact t97 _ _ _ _ _ _ _ _ _ _ _ _ _ hV ho94 Z94 (by omega) (by omega) (by omega) (by omega) | exact t97 _ _ _ _ _ _ _ _ _ _ _ _ _ hV ho94 hZ2 (by omega) (by omega) (by omega) (by omega)
  have t73 : ∀ (h : ev_H) (R2 : Nat → Int → Int) (fk2 a2 fp2 en2 tok2 num2 : Int) (nm2 : Nat) (cs2 wi2 pi2 ui2 : Int), mw_V h0 h (mw_o B fk2 a2 fp2 en2 tok2 num2 nm2 cs2 wi2 pi2 ui2) R2 → mw_ok (B 21) fk2 a2 en2 tok2 num2 nm2 → mw_Z R0 R2 (B 13) cs2 fk2 → (-1600 ≤ wi2 ∧ wi2 ≤ 7 ∧ 0 ≤ pi2 ∧ pi2 ≤ 90 ∧ 0 ≤ ui2 ∧ ui2 ≤ 30) → a < a2 → (nm = 499967946343 → R2 87 (B 13) < 4) → (nm = 1936287598 → R2 88 (B 13) < 8) → (nm = 512802514792 → fk2 = 0) → (nm = 1735552887 → fk2 = 0) → G 73 [(2, 83, 0), (4, nm, 0), (9, 0, 0)] [] E h := by
    intro h R2 fk2 a2 fp2 en2 tok2 num2 nm2 cs2 wi2 pi2 ui2 hV ho hZ2 hrg hle ct cs9 cw cg
    have ho0 := ho
    obtain ⟨p1, p2, p3, p4, p5, p6, p7, p8, p9, p10, p11, p12, p13⟩ := ho
    refine mw_lload hG a187_73 rfl rfl ?_
    refine mw_pushl hG a187_74 ?_
    refine mw_lcmp hG a187_77 (by omega) (by omega) fun y77 hy77 hz77 => ?_
    refine mw_ifc_ne hG a187_78 (by omega) (fun z78 => ?_) (fun z78 => ?_)
    · first | exact t85 _ _ _ _ _ _ _ _ _ _ _ _ _ hV ho0 Z82 (by omega) (by omega) (by omega) (by omega) (by omega) | exact t85 _ _ _ _ _ _ _ _ _ _ _ _ _ hV ho0 hZ2 (by omega) (by omega) (by omega) (by omega) (by omega)
    · refine mw_aload hG a187_81 rfl ?_
      refine mw_vv0 hG hV a187_82 (mw_readThing hen hV ho0 hb hZ2 (by omega)) rfl (by omega) fun h hq82 => ?_
      obtain ⟨R82, fk82, a82, fp82, en82, tok82, num82, nm82, hV, ho82, f82, e82, d82, Z82⟩ := hq82
      first | exact t85 _ _ _ _ _ _ _ _ _ _ _ _ _ hV ho82 Z82 (by omega) (by omega) (by omega) (by omega) (by omega) | exact t85 _ _ _ _ _ _ _ _ _ _ _ _ _ hV ho82 hZ2 (by omega) (by omega) (by omega) (by omega) (by omega)
  have h89 : -2147483648 ≤ R 89 (B 13) ∧ R 89 (B 13) < 2147483648 := by
    have := hZ.1.g89 (i := B 13) (by omega)
    omega
  have h90 : -2147483648 ≤ R 90 (B 13) ∧ R 90 (B 13) < 2147483648 := by
    have := hZ.1.g90 (i := B 13) (by omega)
    omega
  have h94 : -2147483648 ≤ R 94 (B 13) ∧ R 94 (B 13) < 2147483648 := by
    have := hZ.1.g94 (i := B 13) (by omega)
    omega
  have h87 := hZ.1.g87 (i := B 13) (by omega)
  have h88 := hZ.1.g88 (i := B 13) (by omega)
  have t24 : ∀ (h : ev_H) (fk2 fp2 : Int), mw_V h0 h (mw_o B fk2 a fp2 en tok num nm cs wi pi ui) R → 0 ≤ fk2 → fk2 ≤ 5 → (fk2 = 0 → (nm = 499967946343 → R 87 (B 13) < 4) ∧ (nm = 1936287598 → R 88 (B 13) < 8)) → G 24 [(2, 83, 0), (4, nm, 0), (9, 0, 0)] [] E h := by
    intro h fk2 fp2 hV g1 g2 g3
    have ho0 := hs0.fk (fk2 := fk2) g1 g2
    refine mw_aload hG a187_24 rfl ?_
    refine mw_vp0 hG hV a187_25 (mw_isGood hen hV (by omega)) rfl (by omega) fun y25 hy25 => ?_
    refine mw_ifc_ne hG a187_28 (by omega) (fun z28 => ?_) (fun z28 => ?_)
    · refine mw_aload hG a187_32 rfl ?_
      refine mw_vv0 hG hV a187_33 (mw_goOn hen hV (by omega)) rfl (by omega) fun h hq33 => ?_
      obtain ⟨a33, en33, tok33, num33, nm33, hV, ho33, f33⟩ := hq33
      refine mw_aload hG a187_36 rfl ?_
      refine mw_geta hG hV a187_37 rfl ?_
      refine mw_aload hG a187_40 rfl ?_
      refine mw_geti hG hV a187_41 rfl ?_
      refine mw_dup2 hG a187_44 rfl rfl ?_
      refine mw_ald hG hV a187_45 rfl (by omega) ?_
      refine mw_push hG a187_46 mw_c1 ?_
      refine mw_add hG a187_47 ?_
      refine mw_norm ?_
      refine mw_iast hG hV a187_48 rfl (by omega) fun h hV => ?_
      refine mw_lload hG a187_49 rfl rfl ?_
      refine mw_pushl hG a187_50 ?_
      refine mw_lcmp hG a187_53 (by omega) (by omega) fun y53 hy53 hz53 => ?_
      refine mw_ifc_ne hG a187_54 (by omega) (fun z54 => ?_) (fun z54 => ?_)
      · first | exact t73 _ _ _ _ _ _ _ _ _ _ _ _ _ hV ho33 (((hZ.fk (by omega)).p94 (mw_rn2 _)).p86 rfl (by omega)) (by omega) (by omega) (fun z => by exfalso; omega) (fun z => by exfalso; omega) (by omega) (by omega) | exact t73 _ _ _ _ _ _ _ _ _ _ _ _ _ hV ho33 ((hZ.fk (by omega)).p94 (mw_rn2 _)) (by omega) (by omega) (fun z => (show R 87 (B 13) < 4 by omega)) (fun z => (show R 88 (B 13) < 8 by omega)) (by omega) (by omega)
      · refine mw_aload hG a187_57 rfl ?_
        refine mw_geta hG hV a187_58 rfl ?_
        refine mw_aload hG a187_61 rfl ?_
        refine mw_geti hG hV a187_62 rfl ?_
        refine mw_aload hG a187_65 rfl ?_
        refine mw_push hG a187_66 mw_c4 ?_
        refine mw_push hG a187_67 mw_c20 ?_
        refine mw_vi2 hG hV a187_69 (mw_numeral hen hV ho33 (by omega)) rfl (by omega) fun v69 h hq69 => ?_
        obtain ⟨fk69, a69, fp69, en69, tok69, num69, nm69, hV, ho69, f69, e69, d69, c69, l69, u69⟩ := hq69
        refine mw_iast hG hV a187_72 rfl (by omega) fun h hV => ?_
        first | exact t73 _ _ _ _ _ _ _ _ _ _ _ _ _ hV ho69 (((hZ.fk (by omega)).p94 (mw_rn2 _)).p86 rfl (by omega)) (by omega) (by omega) (fun z => by exfalso; omega) (fun z => by exfalso; omega) (by omega) (by omega) | exact t73 _ _ _ _ _ _ _ _ _ _ _ _ _ hV ho69 ((hZ.fk (by omega)).p94 (mw_rn2 _)) (by omega) (by omega) (fun z => (show R 87 (B 13) < 4 by omega)) (fun z => (show R 88 (B 13) < 8 by omega)) (by omega) (by omega)
    · refine mw_vret hG a187_31 (hF _ _ _ ⟨rfl, rfl, _, _, _, _, _, _, _, _, _, _, _, _, hV, ho0, hZ.fk (by omega), by omega, by omega⟩)
  refine mw_aload hG a187_0 rfl ?_
  refine mw_getl hG hV a187_1 rfl ?_
  refine mw_lstore hG a187_4 rfl (Nat.le_of_ble_eq_true rfl) rfl ?_
  refine mw_aload hG a187_5 rfl ?_
  refine mw_geti hG hV a187_6 rfl ?_
  refine mw_push hG a187_9 mw_c3 ?_
  refine mw_icmp_ne hG a187_10 (by omega) (by omega) (fun z10 => ?_) (fun z10 => ?_)
  · refine mw_aload hG a187_20 rfl ?_
    refine mw_vv0 hG hV a187_21 (mw_misplaced hen hV (by omega) (by omega)) rfl (by omega) fun h hq21 => ?_
    obtain ⟨fk21, fp21, hV, f21, e21⟩ := hq21
    have ho21 := (hs0).fk (fk2 := fk21) (by omega) (by omega)
    exact t24 _ _ _ hV (by omega) (by omega) (by omega)
  · refine mw_aload hG a187_13 rfl ?_
    refine mw_vp0 hG hV a187_14 (mw_isFull hen hV hs0 hb (by omega) (hZ.1.g87 (by omega)) (hZ.1.g88 (by omega)) h89 h90 h94 (hZ.1.g103 (by omega)) (hZ.1.g104 (by omega)) (hZ.1.g104 (by omega))) rfl (by omega) fun y14 hy14 => ?_
    refine mw_ifc_eq hG a187_17 (by omega) (fun z17 => ?_) (fun z17 => ?_)
    · exact t24 _ _ _ hV (by omega) (by omega) (by omega)
    · refine mw_aload hG a187_20 rfl ?_
      refine mw_vv0 hG hV a187_21 (mw_misplaced hen hV (by omega) (by omega)) rfl (by omega) fun h hq21 => ?_
      obtain ⟨fk21, fp21, hV, f21, e21⟩ := hq21
      have ho21 := (hs0).fk (fk2 := fk21) (by omega) (by omega)
      exact t24 _ _ _ hV (by omega) (by omega) (by omega)
