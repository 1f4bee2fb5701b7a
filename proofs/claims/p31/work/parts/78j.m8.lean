/-! THE REFERENCE'S MEADOW: startAnew, meadow -/
theorem mu_k {R : Nat → Int → Int} {k k2 : Nat} {i j z : Int} (h : k2 ≠ k) : mu R k i z k2 j = R k2 j := by
  unfold mu
  rw [show Nat.beq k2 k = false from Bool.eq_false_iff.mpr fun z => h (Nat.eq_of_beq_eq_true z), cond_false]
theorem mu1_n {B : Nat → Int} {k j : Nat} {z : Int} (h : j ≠ k) : mu1 B k z j = B j := by
  unfold mu1
  rw [show Nat.beq j k = false from Bool.eq_false_iff.mpr fun z => h (Nat.eq_of_beq_eq_true z), cond_false]
/-- behind startAnew: the other rows stay, boxes are boxes or not -/
def mw_sa (R R2 : Nat → Int → Int) : Prop := (∀ k i, k ≠ 112 → k ≠ 132 → R2 k i = R k i) ∧ ∀ i, 0 ≤ i → i < 3 → 0 ≤ R2 132 i ∧ R2 132 i ≤ 1
theorem mw_sa.p112 {R R2 : Nat → Int → Int} (h : mw_sa R R2) {i z : Int} : mw_sa R (mu R2 112 i z) := ⟨fun k j h1 h2 => by rw [mu_k h1]; exact h.1 k j h1 h2, h.2⟩
theorem mw_sa.p132 {R R2 : Nat → Int → Int} (h : mw_sa R R2) {i : Int} : mw_sa R (mu R2 132 i 0) := ⟨fun k j h1 h2 => by rw [mu_k h2]; exact h.1 k j h1 h2, fun j h1 h2 => mu_b (h.2 j h1 h2) (by omega)⟩
theorem mw_J.sa {R R2 : Nat → Int → Int} (hJ : mw_J R) (hs : mw_sa R R2) (hx : 0 ≤ R2 112 25 ∧ R2 112 25 ≤ 999) : mw_J R2 := by
  obtain ⟨j84, j85, j86, j87, j88, j89, j90, j92, j93, j94, j97, j98, j103, j104, j132, -⟩ := hJ
  exact ⟨fun i h1 h2 => by rw [hs.1 84 i (by omega) (by omega)]; exact j84 i h1 h2, fun i h1 h2 => by rw [hs.1 85 i (by omega) (by omega)]; exact j85 i h1 h2, fun i h1 h2 => by rw [hs.1 86 i (by omega) (by omega)]; exact j86 i h1 h2, fun i h1 h2 => by rw [hs.1 87 i (by omega) (by omega)]; exact j87 i h1 h2, fun i h1 h2 => by rw [hs.1 88 i (by omega) (by omega)]; exact j88 i h1 h2, fun i h1 h2 => by rw [hs.1 89 i (by omega) (by omega)]; exact j89 i h1 h2, fun i h1 h2 => by rw [hs.1 90 i (by omega) (by omega)]; exact j90 i h1 h2, fun i h1 h2 => by rw [hs.1 92 i (by omega) (by omega)]; exact j92 i h1 h2, fun i h1 h2 => by rw [hs.1 93 i (by omega) (by omega)]; exact j93 i h1 h2, fun i h1 h2 => by rw [hs.1 94 i (by omega) (by omega)]; exact j94 i h1 h2, fun i h1 h2 => by rw [hs.1 97 i (by omega) (by omega)]; exact j97 i h1 h2, fun i h1 h2 => by rw [hs.1 98 i (by omega) (by omega)]; exact j98 i h1 h2, fun i h1 h2 => by rw [hs.1 103 i (by omega) (by omega)]; exact j103 i h1 h2, fun i h1 h2 => by rw [hs.1 104 i (by omega) (by omega)]; exact j104 i h1 h2, hs.2, hx⟩
set_option maxHeartbeats 4000000 in
set_option maxRecDepth 20000 in
theorem mw_startAnew (hen : en_ok) {lc : Launch} {h0 h : ev_H} {E : e2_E} {B : Nat → Int} {fk a fp en tok num : Int} {nm : Nat} {cs wi pi ui : Int} {R : Nat → Int → Int} (hV : mw_V h0 h (mw_o B fk a fp en tok num nm cs wi pi ui) R) (hb : 0 ≤ B 0 ∧ B 0 ≤ 1) (hJ : mw_J R) : mw_Cv lc 1 15 [(2, 83, 0)] E h (fun h' => ∃ R2, mw_V h0 h' (mw_o (mu1 (mu1 (mu1 (mu1 B 6 0) 34 0) 27 0) 20 0) fk a fp en tok num nm cs wi pi ui) R2 ∧ mw_sa R R2 ∧ 0 ≤ R2 112 25 ∧ R2 112 25 ≤ 999) := by
  refine mw_con (D := 0) (C := evd_15) (X := hx_15) [] hen ei_15 hxe_15 (Nat.le_of_ble_eq_true rfl) fun d0 F G hd hF hG => ?_
  show G 0 [(2, 83, 0), (9, 0, 0)] [] E h
  have g87 := hJ.g87 (i := B 0) (by omega)
  have g93 := hJ.g93 (i := B 0) (by omega)
  have l121 : ∀ (n : Nat) (i : Int) (h : ev_H) (R3 : Nat → Int → Int), mw_V h0 h (mw_o (mu1 (mu1 (mu1 (mu1 B 6 0) 34 0) 27 0) 20 0) fk a fp en tok num nm cs wi pi ui) R3 → mw_sa R R3 → 0 ≤ R3 112 25 → R3 112 25 ≤ 999 → 0 ≤ i → i + n = 3 → G 121 [(2, 83, 0), mw_i i] [] E h := by
    intro n
    induction n with
    | zero =>
      intro i h R3 hV hs h3 h4 h1 h2
      refine mw_iload hG a15_121 rfl ?_
      refine mw_push hG a15_122 mw_c3 ?_
      refine mw_icmp_ge hG a15_123 (by omega) (by omega) (fun z123 => ?_) (fun z123 => by exfalso; omega)
      refine mw_vret hG a15_139 (hF _ _ _ ⟨rfl, rfl, _, hV, hs, h3, h4⟩)
    | succ n ih =>
      intro i h R3 hV hs h3 h4 h1 h2
      refine mw_iload hG a15_121 rfl ?_
      refine mw_push hG a15_122 mw_c3 ?_
      refine mw_icmp_ge hG a15_123 (by omega) (by omega) (fun z123 => by exfalso; omega) (fun z123 => ?_)
      refine mw_aload hG a15_126 rfl ?_
      refine mw_geta hG hV a15_127 rfl ?_
      refine mw_iload hG a15_130 rfl ?_
      refine mw_push hG a15_131 mw_c0 ?_
      refine mw_bast hG hV a15_132 rfl (Or.inr ⟨rfl, by omega, by omega⟩) (by omega) fun h hV => ?_
      refine mw_iinc hG a15_133 mw_c1 rfl rfl rfl ?_
      refine mw_goto hG a15_136 ?_
      exact ih _ _ _ hV hs.p132 h3 h4 (by omega) (by omega)
  have l25 : ∀ (n : Nat) (i : Int) (h : ev_H) (R3 : Nat → Int → Int), mw_V h0 h (mw_o B fk a fp en tok num nm cs wi pi ui) R3 → mw_sa R R3 → 0 ≤ i → i + n = 4 → G 25 [(2, 83, 0), mw_i i] [] E h := by
    intro n
    induction n with
    | zero =>
      intro i h R3 hV hs h1 h2
      have e93 : R3 93 (B 0) = R 93 (B 0) := hs.1 93 _ (by omega) (by omega)
      have e87 : R3 87 (B 0) = R 87 (B 0) := hs.1 87 _ (by omega) (by omega)
      refine mw_iload hG a15_25 rfl ?_
      refine mw_push hG a15_26 mw_c4 ?_
      refine mw_icmp_ge hG a15_27 (by omega) (by omega) (fun z27 => ?_) (fun z27 => by exfalso; omega)
      refine mw_aload hG a15_75 rfl ?_
      refine mw_geta hG hV a15_76 rfl ?_
      refine mw_push hG a15_79 mw_c24 ?_
      refine mw_push hG a15_81 mw_c0 ?_
      refine mw_iast hG hV a15_82 rfl (by omega) fun h hV => ?_
      refine mw_aload hG a15_83 rfl ?_
      refine mw_geta hG hV a15_84 rfl ?_
      refine mw_push hG a15_87 mw_c25 ?_
      refine mw_aload hG a15_89 rfl ?_
      refine mw_geta hG hV a15_90 rfl ?_
      refine mw_aload hG a15_93 rfl ?_
      refine mw_geti hG hV a15_94 rfl ?_
      refine mw_ald hG hV a15_97 rfl (by omega) ?_
      refine mw_iast hG hV a15_98 rfl (by omega) fun h hV => ?_
      refine mw_aload hG a15_99 rfl ?_
      refine mw_push hG a15_100 mw_c0 ?_
      refine mw_putf hG hV a15_101 (Nat.le_of_ble_eq_true rfl) mw_s6 fun h hV => ?_
      refine mw_aload hG a15_104 rfl ?_
      refine mw_push hG a15_105 mw_c0 ?_
      refine mw_putf hG hV a15_106 (Nat.le_of_ble_eq_true rfl) mw_s34 fun h hV => ?_
      refine mw_aload hG a15_109 rfl ?_
      refine mw_push hG a15_110 mw_c0 ?_
      refine mw_putf hG hV a15_111 (Nat.le_of_ble_eq_true rfl) mw_s27 fun h hV => ?_
      refine mw_aload hG a15_114 rfl ?_
      refine mw_push hG a15_115 mw_c0 ?_
      refine mw_putf hG hV a15_116 (Nat.le_of_ble_eq_true rfl) mw_s20 fun h hV => ?_
      refine mw_push hG a15_119 mw_c0 ?_
      refine mw_istore hG a15_120 rfl (Nat.le_of_ble_eq_true rfl) rfl ?_
      refine l121 3 _ _ _ hV (hs.p112).p112 ?_ ?_ (by omega) (by omega)
      · rw [mu_e]
        show 0 ≤ R3 93 (B 0)
        omega
      · rw [mu_e]
        show R3 93 (B 0) ≤ 999
        omega
    | succ n ih =>
      intro i h R3 hV hs h1 h2
      have e87 : R3 87 (B 0) = R 87 (B 0) := hs.1 87 _ (by omega) (by omega)
      refine mw_iload hG a15_25 rfl ?_
      refine mw_push hG a15_26 mw_c4 ?_
      refine mw_icmp_ge hG a15_27 (by omega) (by omega) (fun z27 => by exfalso; omega) (fun z27 => ?_)
      refine mw_aload hG a15_30 rfl ?_
      refine mw_geta hG hV a15_31 rfl ?_
      refine mw_push hG a15_34 mw_c20 ?_
      refine mw_iload hG a15_36 rfl ?_
      refine mw_add hG a15_37 ?_
      refine mw_iload hG a15_38 rfl ?_
      refine mw_aload hG a15_39 rfl ?_
      refine mw_geta hG hV a15_40 rfl ?_
      refine mw_aload hG a15_43 rfl ?_
      refine mw_geti hG hV a15_44 rfl ?_
      refine mw_ald hG hV a15_47 rfl (by omega) ?_
      refine mw_icmp_ge hG a15_48 (by omega) (by omega) (fun z48 => ?_) (fun z48 => ?_)
      · refine mw_push hG a15_67 mw_c0 ?_
        refine mw_iast hG hV a15_68 rfl (by omega) fun h hV => ?_
        refine mw_iinc hG a15_69 mw_c1 rfl rfl rfl ?_
        refine mw_goto hG a15_72 ?_
        exact ih _ _ _ hV hs.p112 (by omega) (by omega)
      · refine mw_aload hG a15_51 rfl ?_
        refine mw_geta hG hV a15_52 rfl ?_
        refine mw_push hG a15_55 mw_c4 ?_
        refine mw_aload hG a15_56 rfl ?_
        refine mw_geti hG hV a15_57 rfl ?_
        refine mw_mul hG a15_60 ?_
        refine mw_iload hG a15_61 rfl ?_
        refine mw_add hG a15_62 ?_
        refine mw_ald hG hV a15_63 rfl (by omega) ?_
        refine mw_goto hG a15_64 ?_
        refine mw_iast hG hV a15_68 rfl (by omega) fun h hV => ?_
        refine mw_iinc hG a15_69 mw_c1 rfl rfl rfl ?_
        refine mw_goto hG a15_72 ?_
        exact ih _ _ _ hV hs.p112 (by omega) (by omega)
  have l2 : ∀ (n : Nat) (i : Int) (h : ev_H) (R3 : Nat → Int → Int), mw_V h0 h (mw_o B fk a fp en tok num nm cs wi pi ui) R3 → mw_sa R R3 → 0 ≤ i → i + n = 20 → G 2 [(2, 83, 0), mw_i i] [] E h := by
    intro n
    induction n with
    | zero =>
      intro i h R3 hV hs h1 h2
      refine mw_iload hG a15_2 rfl ?_
      refine mw_push hG a15_3 mw_c20 ?_
      refine mw_icmp_ge hG a15_5 (by omega) (by omega) (fun z5 => ?_) (fun z5 => by exfalso; omega)
      refine mw_push hG a15_23 mw_c0 ?_
      refine mw_istore hG a15_24 rfl (Nat.le_of_ble_eq_true rfl) rfl ?_
      exact l25 4 _ _ _ hV hs (by omega) (by omega)
    | succ n ih =>
      intro i h R3 hV hs h1 h2
      refine mw_iload hG a15_2 rfl ?_
      refine mw_push hG a15_3 mw_c20 ?_
      refine mw_icmp_ge hG a15_5 (by omega) (by omega) (fun z5 => by exfalso; omega) (fun z5 => ?_)
      refine mw_aload hG a15_8 rfl ?_
      refine mw_geta hG hV a15_9 rfl ?_
      refine mw_push hG a15_12 mw_c0 ?_
      refine mw_iload hG a15_13 rfl ?_
      refine mw_add hG a15_14 ?_
      refine mw_push hG a15_15 mw_cm1 ?_
      refine mw_iast hG hV a15_16 rfl (by omega) fun h hV => ?_
      refine mw_iinc hG a15_17 mw_c1 rfl rfl rfl ?_
      refine mw_goto hG a15_20 ?_
      exact ih _ _ _ hV hs.p112 (by omega) (by omega)
  refine mw_push hG a15_0 mw_c0 ?_
  refine mw_istore hG a15_1 rfl (Nat.le_of_ble_eq_true rfl) rfl ?_
  exact l2 20 _ _ _ hV ⟨fun _ _ _ _ => rfl, fun i h1 h2 => hJ.g132 ⟨h1, h2⟩⟩ (by omega) (by omega)
/-- what stands behind meadow(): B2, R2 behind, B, R ahead -/
def mw_M (B B2 : Nat → Int) (R R2 : Nat → Int → Int) (cs wi pi ui : Int) : Prop :=
  mw_J R2 ∧ 0 ≤ cs ∧ cs ≤ 1120 ∧ (-1600 ≤ wi ∧ wi ≤ 7 ∧ 0 ≤ pi ∧ pi ≤ 90 ∧ 0 ≤ ui ∧ ui ≤ 30) ∧ 0 ≤ B2 13 ∧ B2 13 ≤ 1 ∧ B2 14 = 0 ∧ 0 ≤ B2 21 ∧ B2 21 ≤ 1600 ∧ (∀ j, j ≠ 0 → j ≠ 6 → j ≠ 13 → j ≠ 14 → j ≠ 20 → j ≠ 21 → j ≠ 27 → j ≠ 34 → B2 j = B j) ∧
  ((B2 0 = B 0 ∧ B2 6 = B 6 ∧ B2 20 = B 20 ∧ B2 27 = B 27 ∧ B2 34 = B 34 ∧ mw_fr R R2 (B 0)) ∨
   ((B2 0 = 1 - B 0 ∧ 4 ≤ R2 86 (1 - B 0)) ∧ B2 6 = 0 ∧ B2 20 = 0 ∧ B2 27 = 0 ∧ B2 34 = 0 ∧ (∀ r, 0 ≤ r → r ≤ 1 → R2 104 (2 * B2 0 + r) = 1 → mw_ru R2 (2 * B2 0 + r) (560 * B2 0) (560 * B2 0 + 560)) ∧ ∀ g, 0 ≤ g → g < R2 88 (B2 0) → 1 ≤ R2 97 (8 * B2 0 + g)))
theorem mw_ru.sa {R R2 : Nat → Int → Int} (hs : mw_sa R R2) {j lo up : Int} (h : mw_ru R j lo up) : mw_ru R2 j lo up := by
  obtain ⟨fr, L, h1, h2, h3, h4, h5⟩ := h
  refine ⟨fr, L, by rw [hs.1 101 _ (by omega) (by omega)]; exact h1, by rw [hs.1 102 _ (by omega) (by omega)]; exact h2, h3, h4, rf_W_cg (fun m _ => ?_) h5⟩
  show Int32.ofInt (R2 107 ((fr + m : Nat) : Int)) = Int32.ofInt (R 107 ((fr + m : Nat) : Int))
  rw [hs.1 107 _ (by omega) (by omega)]
theorem mw_ru.le {R : Nat → Int → Int} {j lo up up2 : Int} (h : mw_ru R j lo up) (hu : up ≤ up2) : mw_ru R j lo up2 := by
  obtain ⟨fr, L, h1, h2, h3, h4, h5⟩ := h
  exact ⟨fr, L, h1, h2, h3, by omega, h5⟩
/-- the rows while the text is copied -/
def mw_tx (R R2 : Nat → Int → Int) : Prop := (∀ k i, k ≠ 85 → R2 k i = R k i) ∧ mw_J R2
theorem mw_tx.p85 {R R2 : Nat → Int → Int} (h : mw_tx R R2) {i z : Int} (hz : -128 ≤ z ∧ z ≤ 127) : mw_tx R (mu R2 85 i z) := ⟨fun k j h1 => by rw [mu_k h1]; exact h.1 k j h1, h.2.p85 hz⟩
theorem mw_fr.tx {R R1 R3 : Nat → Int → Int} {o : Int} (e : ∀ k i, k ≠ 85 → R1 k i = R k i) (h : mw_fr R1 R3 o) : mw_fr R R3 o := by
  obtain ⟨f1, f2, f3, f4⟩ := h
  refine ⟨⟨by rw [← e 88 _ (by omega)]; exact f1.1, by rw [← e 86 _ (by omega)]; exact f1.2.1, f1.2.2⟩, fun i i1 i2 => by rw [← e 97 _ (by omega)]; exact f2 i i1 i2, fun i i1 i2 => ?_, fun i i1 i2 => by rw [← e 107 _ (by omega)]; exact f4 i i1 i2⟩
  rw [← e 101 _ (by omega), ← e 102 _ (by omega), ← e 104 _ (by omega)]
  exact f3 i i1 i2
set_option maxHeartbeats 8000000 in
set_option maxRecDepth 20000 in
theorem mw_meadow (hen : en_ok) {lc : Launch} {h0 h : ev_H} {E : e2_E} {B : Nat → Int} {fk a fp en tok num : Int} {nm : Nat} {cs wi pi ui : Int} {R : Nat → Int → Int} (hV : mw_V h0 h (mw_o B fk a fp en tok num nm cs wi pi ui) R) (hb : 0 ≤ B 0 ∧ B 0 ≤ 1) (hb14 : 0 ≤ B 14 ∧ B 14 ≤ 1600) (hJ : mw_J R) (hn : 0 ≤ num ∧ num ≤ 9999) (hnm : nm < 18446744073709551616) (hrg : -1600 ≤ wi ∧ wi ≤ 7 ∧ 0 ≤ pi ∧ pi ≤ 90 ∧ 0 ≤ ui ∧ ui ≤ 30) : mw_Ci lc 8 185 [(2, 83, 0)] E h (fun z h' => ∃ B2 R2 fk2 a2 fp2 en2 tok2 num2 nm2 cs2 wi2 pi2 ui2, mw_V h0 h' (mw_o B2 fk2 a2 fp2 en2 tok2 num2 nm2 cs2 wi2 pi2 ui2) R2 ∧ mw_ok (B2 21) fk2 a2 en2 tok2 num2 nm2 ∧ mw_M B B2 R R2 cs2 wi2 pi2 ui2) := by
  refine mw_con (D := 7) (C := evd_185) (X := hx_185) [] hen ei_185 hxe_185 (Nat.le_of_ble_eq_true rfl) fun d0 F G hd hF hG => ?_
  show G 0 [(2, 83, 0), (9, 0, 0)] [] E h
  have t95 : ∀ (B3 : Nat → Int) (R1 : Nat → Int → Int), B3 13 = 1 - B 0 → B3 0 = B 0 → B3 14 = 0 → 0 ≤ B3 21 → B3 21 ≤ 1600 → (∀ j, j ≠ 13 → j ≠ 14 → j ≠ 21 → B3 j = B j) → (∀ k i, k ≠ 85 → R1 k i = R k i) → ∀ (h : ev_H) (R3 : Nat → Int → Int) (fk3 a3 fp3 en3 tok3 num3 : Int) (nm3 : Nat) (cs3 wi3 pi3 ui3 : Int) (v1 : ev_V), mw_V h0 h (mw_o B3 fk3 a3 fp3 en3 tok3 num3 nm3 cs3 wi3 pi3 ui3) R3 → mw_ok (B3 21) fk3 a3 en3 tok3 num3 nm3 → mw_Z R1 R3 (B3 13) cs3 fk3 → (-1600 ≤ wi3 ∧ wi3 ≤ 7 ∧ 0 ≤ pi3 ∧ pi3 ≤ 90 ∧ 0 ≤ ui3 ∧ ui3 ≤ 30) → G 95 [(2, 83, 0), v1] [] E h := by
    intro B3 R1 e13 e0 e14 s21 t21 ej e1 h R3 fk3 a3 fp3 en3 tok3 num3 nm3 cs3 wi3 pi3 ui3 v1 hV ho hZ hrg
    have hb3 : 0 ≤ B3 13 ∧ B3 13 ≤ 1 := by omega
    have ho0 := ho
    obtain ⟨p1, p2, p3, p4, p5, p6, p7, p8, p9, p10, p11, p12, p13⟩ := ho
    have g92 := hZ.1.g92 (i := B3 13) (by omega)
    have hbd := hZ.2.2.1
    refine mw_aload hG a185_95 rfl ?_
    refine mw_vp0 hG hV a185_96 (mw_isGood hen hV (by omega)) rfl (by omega) fun y96 hy96 => ?_
    refine mw_ifc_ne hG a185_99 (by omega) (fun z99 => ?_) (fun z99 => ?_)
    · refine mw_aload hG a185_104 rfl ?_
      refine mw_aload hG a185_105 rfl ?_
      refine mw_geti hG hV a185_106 rfl ?_
      refine mw_putf hG hV a185_109 (Nat.le_of_ble_eq_true rfl) mw_s0 fun h hV => ?_
      refine mw_aload hG a185_112 rfl ?_
      refine mw_vv0 hG hV a185_113 (mw_startAnew hen hV (show 0 ≤ B3 13 ∧ B3 13 ≤ 1 from hb3) hZ.1) rfl (by omega) fun h hq113 => ?_
      obtain ⟨R113, hV, hs113⟩ := hq113
      refine mw_aload hG a185_116 rfl ?_
      refine mw_geta hG hV a185_117 rfl ?_
      refine mw_aload hG a185_120 rfl ?_
      refine mw_geti hG hV a185_121 rfl ?_
      refine mw_ald hG hV a185_124 rfl (show 0 ≤ B3 13 ∧ B3 13 < ((2 : Nat) : Int) by omega) ?_
      refine mw_iret hG a185_125 (Or.inl rfl) (hF _ _ _ ⟨rfl, _, rfl, _, _, _, _, _, _, _, _, _, _, _, _, _, hV, ho0, ?_⟩)
      obtain ⟨hs1, hs2, hs3⟩ := hs113
      have hz := z99
      have h86 : 4 ≤ R113 86 (1 - B 0) := by
        have h1 := hZ.2.1.1.2.2
        rw [show 1 - (1 - B3 13) = 1 - B 0 by omega] at h1
        rw [hs1.1 86 _ (by omega) (by omega)]
        exact h1
      refine ⟨hZ.1.sa hs1 ⟨hs2, hs3⟩, by omega, by omega, hrg, hb3.1, hb3.2, e14, s21, t21, fun j j0 j6 j13 j14 j20 j21 j27 j34 => ?_, Or.inr ⟨⟨e13, h86⟩, rfl, rfl, rfl, rfl, fun r r1 r2 r3 => ?_, fun g g1 g2 => ?_⟩⟩
      · rw [mu1_n j20, mu1_n j27, mu1_n j34, mu1_n j6, mu1_n j0]
        exact ej j j13 j14 j21
      · have r3 : R113 104 (2 * B3 13 + r) = 1 := r3
        rw [hs1.1 104 _ (by omega) (by omega)] at r3
        exact ((hZ.2.2.2.1 r r1 r2 r3).sa hs1).le (by show cs3 ≤ 560 * B3 13 + 560; omega)
      · have g2 : g < R113 88 (B3 13) := g2
        rw [hs1.1 88 _ (by omega) (by omega)] at g2
        show 1 ≤ R113 97 (8 * B3 13 + g)
        rw [hs1.1 97 _ (by omega) (by omega)]
        exact hZ.2.2.2.2 (by omega) g g1 g2
    · refine mw_push hG a185_102 mw_cm1 ?_
      refine mw_iret hG a185_103 (Or.inl rfl) (hF _ _ _ ⟨rfl, _, rfl, _, _, _, _, _, _, _, _, _, _, _, _, _, hV, ho0, ?_⟩)
      have hf := hZ.2.1.tx e1
      rw [show 1 - B3 13 = B 0 by omega] at hf
      exact ⟨hZ.1, by omega, by omega, hrg, hb3.1, hb3.2, e14, s21, t21, fun j _ _ j13 j14 _ j21 _ _ => ej j j13 j14 j21, Or.inl ⟨e0, ej 6 (by omega) (by omega) (by omega), ej 20 (by omega) (by omega) (by omega), ej 27 (by omega) (by omega) (by omega), ej 34 (by omega) (by omega) (by omega), hf⟩⟩
  have l74 : ∀ (B3 : Nat → Int) (R1 : Nat → Int → Int), B3 13 = 1 - B 0 → B3 0 = B 0 → B3 14 = 0 → 0 ≤ B3 21 → B3 21 ≤ 1600 → (∀ j, j ≠ 13 → j ≠ 14 → j ≠ 21 → B3 j = B j) → (∀ k i, k ≠ 85 → R1 k i = R k i) → ∀ (n : Nat) (h : ev_H) (R3 : Nat → Int → Int) (fk3 a3 fp3 en3 tok3 num3 : Int) (nm3 : Nat) (cs3 wi3 pi3 ui3 : Int) (v1 : ev_V), mw_V h0 h (mw_o B3 fk3 a3 fp3 en3 tok3 num3 nm3 cs3 wi3 pi3 ui3) R3 → mw_ok (B3 21) fk3 a3 en3 tok3 num3 nm3 → mw_Z R1 R3 (B3 13) cs3 fk3 → (-1600 ≤ wi3 ∧ wi3 ≤ 7 ∧ 0 ≤ pi3 ∧ pi3 ≤ 90 ∧ 0 ≤ ui3 ∧ ui3 ≤ 30) → (fk3 = 0 → B3 21 - a3 < n) → G 74 [(2, 83, 0), v1] [] E h := by
    intro B3 R1 e13 e0 e14 s21 t21 ej e1 n
    have hb3 : 0 ≤ B3 13 ∧ B3 13 ≤ 1 := by omega
    induction n with
    | zero =>
      intro h R3 fk3 a3 fp3 en3 tok3 num3 nm3 cs3 wi3 pi3 ui3 v1 hV ho hZ hrg hm
      have ho0 := ho
      obtain ⟨p1, p2, p3, p4, p5, p6, p7, p8, p9, p10, p11, p12, p13⟩ := ho
      refine mw_aload hG a185_74 rfl ?_
      refine mw_vp0 hG hV a185_75 (mw_isGood hen hV (by omega)) rfl (by omega) fun y75 hy75 => ?_
      refine mw_ifc_eq hG a185_78 (by omega) (fun z78 => ?_) (fun z78 => by exfalso; omega)
      exact t95 B3 R1 e13 e0 e14 s21 t21 ej e1 _ _ _ _ _ _ _ _ _ _ _ _ _ _ hV ho0 hZ hrg
    | succ n ih =>
      intro h R3 fk3 a3 fp3 en3 tok3 num3 nm3 cs3 wi3 pi3 ui3 v1 hV ho hZ hrg hm
      have ho0 := ho
      obtain ⟨p1, p2, p3, p4, p5, p6, p7, p8, p9, p10, p11, p12, p13⟩ := ho
      refine mw_aload hG a185_74 rfl ?_
      refine mw_vp0 hG hV a185_75 (mw_isGood hen hV (by omega)) rfl (by omega) fun y75 hy75 => ?_
      refine mw_ifc_eq hG a185_78 (by omega) (fun z78 => ?_) (fun z78 => ?_)
      · exact t95 B3 R1 e13 e0 e14 s21 t21 ej e1 _ _ _ _ _ _ _ _ _ _ _ _ _ _ hV ho0 hZ hrg
      · refine mw_aload hG a185_81 rfl ?_
        refine mw_geti hG hV a185_82 rfl ?_
        refine mw_ifc_eq hG a185_85 (by omega) (fun z85 => ?_) (fun z85 => ?_)
        · exact t95 B3 R1 e13 e0 e14 s21 t21 ej e1 _ _ _ _ _ _ _ _ _ _ _ _ _ _ hV ho0 hZ hrg
        · refine mw_aload hG a185_88 rfl ?_
          refine mw_vv0 hG hV a185_89 (mw_readLine hen hV ho0 hb3 hZ (by omega) (by omega) hrg) rfl (by omega) fun h hq89 => ?_
          obtain ⟨R89, fk89, a89, fp89, en89, tok89, num89, nm89, cs89, wi89, pi89, ui89, hV, ho89, Z89, r89, f89⟩ := hq89
          refine mw_goto hG a185_92 ?_
          exact ih _ _ _ _ _ _ _ _ _ _ _ _ _ _ hV ho89 Z89 r89 (by omega)
  have t66 : ∀ (B3 : Nat → Int) (R1 : Nat → Int → Int), B3 13 = 1 - B 0 → B3 0 = B 0 → B3 14 = 0 → 0 ≤ B3 21 → B3 21 ≤ 1600 → (∀ j, j ≠ 13 → j ≠ 14 → j ≠ 21 → B3 j = B j) → ∀ (h : ev_H) (v1 : ev_V), mw_V h0 h (mw_o B3 0 a (-1) 0 tok num nm cs wi pi ui) R1 → mw_tx R R1 → G 66 [(2, 83, 0), v1] [] E h := by
    intro B3 R1 e13 e0 e14 s21 t21 ej h v1 hV hT
    have hb3 : 0 ≤ B3 13 ∧ B3 13 ≤ 1 := by omega
    refine mw_aload hG a185_66 rfl ?_
    refine mw_vv0 hG hV a185_67 (mw_clearBank hen hV hb3 hT.2) rfl (by omega) fun h hq67 => ?_
    obtain ⟨R67, hV, hc67⟩ := hq67
    refine mw_aload hG a185_70 rfl ?_
    refine mw_vv0 hG hV a185_71 (mw_goOn hen hV (by omega)) rfl (by omega) fun h hq71 => ?_
    obtain ⟨a71, en71, tok71, num71, nm71, hV, ho71, f71⟩ := hq71
    exact l74 B3 R1 e13 e0 e14 s21 t21 ej hT.1 (B3 21 + 1).toNat _ _ _ _ _ _ _ _ _ _ _ _ _ _ hV ho71 hc67.Z hrg (by have := (id ho71).1; omega)
  have l20 : ∀ (n : Nat) (i : Int) (h : ev_H) (R3 : Nat → Int → Int), mw_V h0 h (mw_o (mu1 B 21 (B 14)) 0 a (-1) en tok num nm cs wi pi ui) R3 → mw_tx R R3 → 0 ≤ i → i + n = B 14 → G 20 [(2, 83, 0), mw_i i] [] E h := by
    intro n
    have es : mu1 B 21 (B 14) 21 = B 14 := rfl
    induction n with
    | zero =>
      intro i h R3 hV hT h1 h2
      refine mw_iload hG a185_20 rfl ?_
      refine mw_aload hG a185_21 rfl ?_
      refine mw_geti hG hV a185_22 rfl ?_
      refine mw_icmp_ge hG a185_25 (by omega) (by omega) (fun z25 => ?_) (fun z25 => by exfalso; omega)
      refine mw_aload hG a185_46 rfl ?_
      refine mw_push hG a185_47 mw_c0 ?_
      refine mw_putf hG hV a185_48 (Nat.le_of_ble_eq_true rfl) mw_s14 fun h hV => ?_
      refine mw_aload hG a185_51 rfl ?_
      refine mw_push hG a185_52 mw_c0 ?_
      refine mw_putf hG hV a185_53 (Nat.le_of_ble_eq_true rfl) mw_s37 fun h hV => ?_
      refine mw_aload hG a185_56 rfl ?_
      refine mw_push hG a185_57 mw_c1 ?_
      refine mw_aload hG a185_58 rfl ?_
      refine mw_geti hG hV a185_59 rfl ?_
      refine mw_sub hG a185_62 ?_
      refine mw_putf hG hV a185_63 (Nat.le_of_ble_eq_true rfl) mw_s13 fun h hV => ?_
      exact t66 (mu1 (mu1 (mu1 B 21 (B 14)) 14 0) 13 (1 - B 0)) _ rfl rfl rfl hb14.1 hb14.2 (fun j j13 j14 j21 => by rw [mu1_n j13, mu1_n j14, mu1_n j21]) _ _ hV hT
    | succ n ih =>
      intro i h R3 hV hT h1 h2
      have g84 := hT.2.g84 (i := i) (by omega)
      refine mw_iload hG a185_20 rfl ?_
      refine mw_aload hG a185_21 rfl ?_
      refine mw_geti hG hV a185_22 rfl ?_
      refine mw_icmp_ge hG a185_25 (by omega) (by omega) (fun z25 => by exfalso; omega) (fun z25 => ?_)
      refine mw_aload hG a185_28 rfl ?_
      refine mw_geta hG hV a185_29 rfl ?_
      refine mw_iload hG a185_32 rfl ?_
      refine mw_aload hG a185_33 rfl ?_
      refine mw_geta hG hV a185_34 rfl ?_
      refine mw_iload hG a185_37 rfl ?_
      refine mw_bald hG hV a185_38 rfl (by decide) (by omega) ?_
      refine mw_bast hG hV a185_39 rfl (Or.inl ⟨rfl, by omega, by omega⟩) (by omega) fun h hV => ?_
      refine mw_iinc hG a185_40 mw_c1 rfl rfl rfl ?_
      refine mw_goto hG a185_43 ?_
      exact ih _ _ _ hV (hT.p85 (by omega)) (by omega) (by omega)
  refine mw_aload hG a185_0 rfl ?_
  refine mw_push hG a185_1 mw_c0 ?_
  refine mw_putf hG hV a185_2 (Nat.le_of_ble_eq_true rfl) mw_s23 fun h hV => ?_
  refine mw_aload hG a185_5 rfl ?_
  refine mw_push hG a185_6 mw_cm1 ?_
  refine mw_putf hG hV a185_7 (Nat.le_of_ble_eq_true rfl) mw_s36 fun h hV => ?_
  refine mw_aload hG a185_10 rfl ?_
  refine mw_aload hG a185_11 rfl ?_
  refine mw_geti hG hV a185_12 rfl ?_
  refine mw_putf hG hV a185_15 (Nat.le_of_ble_eq_true rfl) mw_s21 fun h hV => ?_
  refine mw_push hG a185_18 mw_c0 ?_
  refine mw_istore hG a185_19 rfl (Nat.le_of_ble_eq_true rfl) rfl ?_
  exact l20 (B 14).toNat _ _ _ hV ⟨fun _ _ _ => rfl, hJ⟩ (by omega) (by omega)
