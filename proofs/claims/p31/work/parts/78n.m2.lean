/-! THE REFERENCE'S ORDERS: weights, the order laid, orders -/
theorem mo_ev {n : Nat} : Int32.ofInt (n : Int) = ev_i n := Int32.ofInt_eq_ofNat
theorem mo_evI {x : Int} (h : 0 ≤ x ∧ x < 2147483648) : mw_i x = sy_I (ev_i x.toNat) := by rw [mw_i, mw_ix h]
theorem mo_comes (hen : en_ok) {lc : Launch} {h0 h : ev_H} {E : e2_E} {B : Nat → Int} {fk a fp en tok num : Int} {nm : Nat} {cs wi pi ui : Int} {R : Nat → Int → Int} {bk W M : Int} (hV : mo_V h0 h (mw_o B fk a fp en tok num nm cs wi pi ui) R) (b0 : B 0 = bk) (hK : mo_K R bk W M) (h1 : R 104 (2 * bk) = 1) : mw_Ci lc 2 210 [(2, 83, 0), mw_i 0] E h (fun z h' => (-2147483648 ≤ z ∧ z < 2147483648) ∧ ∃ R2, mo_V h0 h' (mw_o B fk a fp en tok num nm cs wi pi ui) R2 ∧ mo_K R2 bk W M ∧ mo_fr [111] R R2) := by
  have kk := hK.2.2.1
  obtain ⟨fr, L, r1, r2, r3, r4, r5⟩ := hK.2.2.2.2.1 h1
  have e0 : mw_i 0 = sy_I (ev_i 0) := congrArg sy_I (by decide +kernel)
  rw [e0]
  have hO : rf_O h (mw_o B fk a fp en tok num nm cs wi pi ui) bk.toNat := by
    refine ⟨hV.1, ?_, rfl, rfl, rfl, rfl, rfl, rfl, ⟨_, rfl⟩, ⟨_, rfl⟩, ⟨_, rfl⟩, ⟨_, rfl⟩, ⟨_, rfl⟩⟩
    rw [← mo_evI (x := bk) (by omega), ← b0]
    rfl
  refine sy_con (D := 1) (C := evd_210) (X := e2x_210) [] hen ei_210 ex2_210 (Nat.le_of_ble_eq_true rfl) fun d F G hd hQ hG => ?_
  refine rf_comes hen (b0 := 0) (b := bk.toNat) (rr := 0) (fr := fr) (L := L) (lo := mw_o B fk a fp en tok num nm cs wi pi ui) (C := mw_C (R 107)) (N := fun i => Int32.ofInt (R 108 (i : Int))) (Fr := fun i => Int32.ofInt (R 101 (i : Int))) (To := fun i => Int32.ofInt (R 102 (i : Int))) (w := fun i => Int32.ofInt (R 112 (i : Int))) (p0 := fun i => Int32.ofInt (R 111 (i : Int))) (h0 := h) (by omega) (by omega) hO (hV.2.1 112 50 26 rfl (by omega)) (hV.2.1 107 50 1120 rfl (by omega)) (hV.2.1 108 50 1120 rfl (by omega)) (hV.2.1 101 50 4 rfl (by omega)) (hV.2.1 102 50 4 rfl (by omega)) (hV.2.1 111 50 60 rfl (by omega)) ?_ ?_ (by omega) r5 d F G hd (fun v E' h' hp => ?_) hG
  · show Int32.ofInt (R 101 ((2 * bk.toNat + 0 : Nat) : Int)) = ev_i fr
    rw [show ((2 * bk.toNat + 0 : Nat) : Int) = 2 * bk by omega, r1, mo_ev]
  · show Int32.ofInt (R 102 ((2 * bk.toNat + 0 : Nat) : Int)) = ev_i (fr + L)
    rw [show ((2 * bk.toNat + 0 : Nat) : Int) = 2 * bk by omega, r2, mo_ev]
  · obtain ⟨⟨x, rfl⟩, rfl, ⟨p, hp⟩, ho⟩ := hp
    refine hQ _ _ _ ⟨rfl, x.toInt, mw_I x, mw_rI x, fun k i => if k = 111 then (p i.toNat).toInt else R k i, ⟨by rw [ho 83 (by omega) (by omega)]; exact hV.1, fun k t n hT ht => ?_, fun k n k83 hT => ?_⟩, ?_, fun k i hk => if_neg (fun (e : k = 111) => hk (by rw [e]; decide))⟩
    · by_cases hk : k = 111
      · subst hk
        have : some (50, 60) = some (t, n) := hT
        cases this
        rw [hp]
        refine congrArg (Prod.mk 50) (List.map_congr_left fun j _ => ?_)
        show sy_I (p j) = mw_i (if (111 : Nat) = 111 then (p ((j : Int)).toNat).toInt else R 111 (j : Int))
        rw [if_pos rfl, Int.toNat_natCast]
        exact mw_I _
      · rw [ho k (mo_Tk hT).1 hk, hV.2.1 k t n hT ht]
        refine congrArg (Prod.mk t) (List.map_congr_left fun j _ => ?_)
        show mw_i (R k (j : Int)) = mw_i (if k = 111 then (p ((j : Int)).toNat).toInt else R k (j : Int))
        rw [if_neg hk]
    · rw [ho k (mo_Tk hT).1 (fun e => by
        subst e
        have : some (50, 60) = some (0, n) := hT
        cases this)]
      exact hV.2.2 k n k83 hT
    · exact hK
set_option maxHeartbeats 8000000 in
set_option maxRecDepth 20000 in
theorem mo_layWeights (hen : en_ok) {lc : Launch} {h0 h : ev_H} {E : e2_E} {B : Nat → Int} {fk a fp en tok num : Int} {nm : Nat} {cs wi pi ui : Int} {R : Nat → Int → Int} {bk W M : Int} (hV : mo_V h0 h (mw_o B fk a fp en tok num nm cs wi pi ui) R) (b0 : B 0 = bk) (hK : mo_K R bk W M) : mw_Cv lc 3 224 [(2, 83, 0)] E h (fun h' => ∃ R2 B2, mo_V h0 h' (mw_o B2 fk a fp en tok num nm cs wi pi ui) R2 ∧ mo_K R2 bk W M ∧ mo_fr [111, 113] R R2 ∧ mo_bf [61, 62, 63, 64, 65] B B2) := by
  refine mw_con (D := 2) (C := evd_224) (X := e2x_224) [] hen ei_224 ex2_224 (Nat.le_of_ble_eq_true rfl) fun d0 F G hd hF hG => ?_
  show G 0 [(2, 83, 0), (9, 0, 0), (9, 0, 0), (9, 0, 0)] [] E h
  have kk := hK.2.2.1
  have l12 : ∀ (n : Nat) (g : Int) (v2 v3 : ev_V) (h : ev_H) (R2 : Nat → Int → Int) (B2 : Nat → Int), 0 ≤ g → g + n = M → mo_V h0 h (mw_o B2 fk a fp en tok num nm cs wi pi ui) R2 → mo_K R2 bk W M → mo_fr [111, 113] R R2 → mo_bf [61, 62, 63, 64, 65] B B2 → B2 0 = bk → G 12 [(2, 83, 0), mw_i g, v2, v3] [] E h := by
    intro n
    induction n with
    | zero =>
      intro g v2 v3 h R2 B2 h1 h2 hV hK hQ hB b0
      refine mw_iload hG a224_12 rfl ?_
      refine mw_aload hG a224_13 rfl ?_
      refine mo_vp0 hG hV a224_14 (mo_many hen hV b0 hK) rfl (by omega) fun y14 hy14 => ?_
      rw [hy14]
      refine mw_icmp_ge hG a224_17 (by omega) (by omega) (fun z17 => ?_) (fun z17 => by exfalso; omega)
      refine mw_vret hG a224_124 (hF _ _ _ ⟨rfl, rfl, _, _, hV, hK, hQ, hB⟩)
    | succ n ih =>
      intro g v2 v3 h R2 B2 h1 h2 hV hK hQ hB b0
      have l60 : ∀ (m : Nat) (c x : Int) (h : ev_H) (R2 : Nat → Int → Int) (B2 : Nat → Int), 0 ≤ c → c + m = W → mo_V h0 h (mw_o B2 fk a fp en tok num nm cs wi pi ui) R2 → mo_K R2 bk W M → mo_fr [111, 113] R R2 → mo_bf [61, 62, 63, 64, 65] B B2 → B2 0 = bk → G 60 [(2, 83, 0), mw_i g, mw_i x, mw_i c] [] E h := by
        intro m
        induction m with
        | zero =>
          intro c x h R2 B2 g1 g2 hV hK hQ hB b0
          refine mw_iload hG a224_60 rfl ?_
          refine mw_aload hG a224_61 rfl ?_
          refine mo_vp0 hG hV a224_62 (mo_width hen hV b0 hK) rfl (by omega) fun y62 hy62 => ?_
          rw [hy62]
          refine mw_icmp_ge hG a224_65 (by omega) (by omega) (fun z65 => ?_) (fun z65 => by exfalso; omega)
          refine mw_iinc hG a224_118 mw_c1 rfl rfl rfl ?_
          refine mw_goto hG a224_121 ?_
          exact ih _ _ _ _ _ _ (by omega) (by omega) hV hK hQ hB b0
        | succ m ih2 =>
          intro c x h R2 B2 g1 g2 hV hK hQ hB b0
          refine mw_iload hG a224_60 rfl ?_
          refine mw_aload hG a224_61 rfl ?_
          refine mo_vp0 hG hV a224_62 (mo_width hen hV b0 hK) rfl (by omega) fun y62 hy62 => ?_
          rw [hy62]
          refine mw_icmp_ge hG a224_65 (by omega) (by omega) (fun z65 => by exfalso; omega) (fun z65 => ?_)
          refine mw_aload hG a224_68 rfl ?_
          refine mw_iload hG a224_69 rfl ?_
          refine mo_p62 hG hV a224_70 fun h B70 hV nb70 vb70 => ?_
          have hB := hB.up nb70 (by decide)
          have b0 := (nb70 0 (by decide)).trans b0
          refine mw_aload hG a224_73 rfl ?_
          refine mo_geta hG hV a224_74 rfl ?_
          refine mw_push hG a224_77 mw_c20 ?_
          refine mw_iload hG a224_79 rfl ?_
          refine mw_mul hG a224_80 ?_
          refine mw_iload hG a224_81 rfl ?_
          refine mw_add hG a224_82 ?_
          refine mw_aload hG a224_83 rfl ?_
          refine mo_geta hG hV a224_84 rfl ?_
          refine mw_push hG a224_87 mw_c2 ?_
          refine mw_aload hG a224_88 rfl ?_
          refine mo_g0 hG hV a224_89 b0 ?_
          refine mw_mul hG a224_92 ?_
          refine mo_bald hG hV a224_93 rfl (by decide) (by omega) ?_
          have g104 := hK.g104 (i := 2 * bk) (by omega)
          refine mw_ifc_eq hG a224_94 (by omega) (fun z94 => ?_) (fun z94 => ?_)
          · refine mw_push hG a224_110 mw_c1 ?_
            refine mo_ist hG hV a224_111 rfl (by omega) fun h R111 hV hR111 => ?_
            have hK := hK.p113 hR111 (by omega)
            have hQ := hQ.up hR111 (by decide)
            refine mw_iinc hG a224_112 mw_c1 rfl rfl rfl ?_
            refine mw_goto hG a224_115 ?_
            exact ih2 _ _ _ _ _ (by omega) (by omega) hV hK hQ hB b0
          · refine mw_aload hG a224_97 rfl ?_
            refine mw_push hG a224_98 mw_c0 ?_
            refine mo_vi1 hG hV a224_99 (mo_comes hen hV b0 hK (by omega)) rfl (by omega) fun v99 h hq99 => ?_
            obtain ⟨hv99, R99, hV, hK, hf99⟩ := hq99
            have hQ := hQ.tr hf99 (by decide)
            refine mw_push hG a224_102 mw_c99 ?_
            refine mw_sp2 hG a224_104 (mo_bound hen (by omega) (by omega)) rfl (by omega) fun y104 hy104 => ?_
            refine mw_goto hG a224_107 ?_
            refine mo_ist hG hV a224_111 rfl (by omega) fun h R111 hV hR111 => ?_
            have hK := hK.p113 hR111 (by omega)
            have hQ := hQ.up hR111 (by decide)
            refine mw_iinc hG a224_112 mw_c1 rfl rfl rfl ?_
            refine mw_goto hG a224_115 ?_
            exact ih2 _ _ _ _ _ (by omega) (by omega) hV hK hQ hB b0
      have gl := hK.g97 (i := 8 * bk + g) (by omega)
      have gd := hK.g98 (i := 8 * bk + g) (by omega)
      refine mw_iload hG a224_12 rfl ?_
      refine mw_aload hG a224_13 rfl ?_
      refine mo_vp0 hG hV a224_14 (mo_many hen hV b0 hK) rfl (by omega) fun y14 hy14 => ?_
      rw [hy14]
      refine mw_icmp_ge hG a224_17 (by omega) (by omega) (fun z17 => by exfalso; omega) (fun z17 => ?_)
      refine mw_push hG a224_20 mw_c8 ?_
      refine mw_aload hG a224_22 rfl ?_
      refine mo_g0 hG hV a224_23 b0 ?_
      refine mw_mul hG a224_26 ?_
      refine mw_iload hG a224_27 rfl ?_
      refine mw_add hG a224_28 ?_
      refine mw_istore hG a224_29 rfl (Nat.le_of_ble_eq_true rfl) rfl ?_
      refine mw_aload hG a224_30 rfl ?_
      refine mw_aload hG a224_31 rfl ?_
      refine mo_geta hG hV a224_32 rfl ?_
      refine mw_iload hG a224_35 rfl ?_
      refine mo_ald hG hV a224_36 rfl (by omega) ?_
      refine mo_p61 hG hV a224_37 fun h B37 hV nb37 vb37 => ?_
      have hB := hB.up nb37 (by decide)
      have b0 := (nb37 0 (by decide)).trans b0
      refine mw_aload hG a224_40 rfl ?_
      refine mw_aload hG a224_41 rfl ?_
      refine mo_geta hG hV a224_42 rfl ?_
      refine mw_push hG a224_45 mw_c20 ?_
      refine mw_aload hG a224_47 rfl ?_
      refine mo_geta hG hV a224_48 rfl ?_
      refine mw_iload hG a224_51 rfl ?_
      refine mo_ald hG hV a224_52 rfl (by omega) ?_
      refine mw_add hG a224_53 ?_
      refine mo_ald hG hV a224_54 rfl (by omega) ?_
      refine mo_p63 hG hV a224_55 fun h B55 hV nb55 vb55 => ?_
      have hB := hB.up nb55 (by decide)
      have b0 := (nb55 0 (by decide)).trans b0
      refine mw_push hG a224_58 mw_c0 ?_
      refine mw_istore hG a224_59 rfl (Nat.le_of_ble_eq_true rfl) rfl ?_
      exact l60 W.toNat _ _ _ _ _ (by omega) (by omega) hV hK hQ hB b0
  have hQ := mo_fr.rf [111, 113] R
  have hB := mo_bf.rf [61, 62, 63, 64, 65] B
  refine mw_aload hG a224_0 rfl ?_
  refine mw_push hG a224_1 mw_c0 ?_
  refine mo_p64 hG hV a224_2 fun h B2 hV nb2 vb2 => ?_
  have hB := hB.up nb2 (by decide)
  have b0 := (nb2 0 (by decide)).trans b0
  refine mw_aload hG a224_5 rfl ?_
  refine mw_push hG a224_6 mw_c0 ?_
  refine mo_p65 hG hV a224_7 fun h B7 hV nb7 vb7 => ?_
  have hB := hB.up nb7 (by decide)
  have b0 := (nb7 0 (by decide)).trans b0
  refine mw_push hG a224_10 mw_c0 ?_
  refine mw_istore hG a224_11 rfl (Nat.le_of_ble_eq_true rfl) rfl ?_
  exact l12 M.toNat _ _ _ _ _ _ (by omega) (by omega) hV hK hQ hB b0
/-- parts: sets of at most eight, as numbers -/
def mo_p2 (i : Nat) : Nat := 2 ^ i
theorem mo_bits : ∀ p, p < 256 → ∀ i, i < 8 → sy_bt (ev_i p) i = p.testBit i ∧ (p.testBit i = false → eb_or (ev_i p) (eb_shl (ev_i 1) (ev_i i)) = ev_i (p + mo_p2 i) ∧ p + mo_p2 i < 256 ∧ mw_ct (ev_i (p + mo_p2 i)) 8 = mw_ct (ev_i p) 8 + 1) := by decide +kernel
theorem mo_full : ∀ n, n < 9 → (eb_shl (ev_i 1) (ev_i n)).toInt - 1 = ((mo_p2 n - 1 : Nat) : Int) ∧ mo_p2 n ≤ 256 ∧ 1 ≤ mo_p2 n := by decide +kernel
theorem mo_fb : ∀ n, n < 9 → ∀ i, i < n → (mo_p2 n - 1).testBit i = true := by decide +kernel
theorem mo_up : ∀ n, n < 9 → ∀ p, p < mo_p2 n → ∀ i, i < n → p.testBit i = false → p + mo_p2 i < mo_p2 n := by decide +kernel
theorem mo_or {p i : Nat} (hp : p < 256) (hi : i < 8) (hb : p.testBit i = false) : (eb_or (Int32.ofInt (p : Int)) (Int32.ofInt (eb_shl (Int32.ofInt 1) (Int32.ofInt (i : Int))).toInt)).toInt = ((p + mo_p2 i : Nat) : Int) := by
  rw [Int32.ofInt_toInt, mo_ev, mo_ev, show Int32.ofInt 1 = ev_i 1 from mo_ev (n := 1), ((mo_bits p hp i hi).2 hb).1]
  have := ((mo_bits p hp i hi).2 hb).2.1
  rw [← mo_ev]
  exact mw_nn (by omega)
theorem mo_bt {p i : Nat} (hp : p < 256) (hi : i < 8) : sy_bt (Int32.ofInt (p : Int)) ((i : Int)).toNat = p.testBit i := by
  rw [mo_ev, Int.toNat_natCast]
  exact (mo_bits p hp i hi).1
/-- from each part with ways on there is a next one -/
def mo_W (R : Nat → Int → Int) (n lo : Nat) : Prop := ∀ p : Nat, lo ≤ p → p < mo_p2 n - 1 → R 123 (p : Int) ≠ 0 → ∃ i, i < n ∧ p.testBit i = false ∧ R 123 ((p + mo_p2 i : Nat) : Int) ≠ 0
def mo_ct8 (p : Nat) : Nat := mw_ct (ev_i p) 8
theorem mo_ct8_le (p : Nat) : mo_ct8 p ≤ 8 := mw_ct_le _ 8
set_option maxHeartbeats 8000000 in
set_option maxRecDepth 20000 in
theorem mo_layOrder (hen : en_ok) {lc : Launch} {h0 h : ev_H} {E : e2_E} {B : Nat → Int} {fk a fp en tok num : Int} {nm : Nat} {cs wi pi ui : Int} {R : Nat → Int → Int} {bk W M : Int} (hV : mo_V h0 h (mw_o B fk a fp en tok num nm cs wi pi ui) R) (b0 : B 0 = bk) (hK : mo_K R bk W M) {n : Nat} (hn : n ≤ 8) (b20 : B 20 = 0) (hW : mo_W R n 0) (h123 : R 123 0 ≠ 0) : mw_Cv lc 2 265 [(2, 83, 0), mw_i (((mo_p2 n - 1 : Nat) : Int)), mw_i (n : Int)] E h (fun h' => ∃ R2 B2, mo_V h0 h' (mw_o B2 fk a fp en tok num nm cs wi pi ui) R2 ∧ mo_K R2 bk W M ∧ mo_fr [119] R R2 ∧ mo_bf [20] B B2 ∧ ∃ ld, B2 20 = ld ∧ 0 ≤ ld ∧ ld ≤ 20) := by
  refine mw_con (D := 1) (C := evd_265) (X := e2x_265) [] hen ei_265 ex2_265 (Nat.le_of_ble_eq_true rfl) fun d0 F G hd hF hG => ?_
  show G 0 [(2, 83, 0), mw_i (((mo_p2 n - 1 : Nat) : Int)), mw_i (n : Int), (9, 0, 0), (9, 0, 0)] [] E h
  have kk := hK.2.2.1
  have hn2 := mo_full n (by omega)
  have l2 : ∀ (m : Nat) (p ld : Nat) (v4 : ev_V) (h : ev_H) (R2 : Nat → Int → Int) (B2 : Nat → Int), p ≤ mo_p2 n - 1 → mo_p2 n - 1 - p ≤ m → ld = mo_ct8 p → R 123 (p : Int) ≠ 0 → mo_V h0 h (mw_o B2 fk a fp en tok num nm cs wi pi ui) R2 → mo_K R2 bk W M → mo_fr [119] R R2 → mo_bf [20] B B2 → B2 0 = bk → B2 20 = (ld : Int) → G 2 [(2, 83, 0), mw_i (((mo_p2 n - 1 : Nat) : Int)), mw_i (n : Int), mw_i (p : Int), v4] [] E h := by
    intro m
    induction m with
    | zero =>
      intro p ld v4 h R2 B2 h1 h2 h3 h4 hV hK hQ hB b0 b20
      have hz : p = mo_p2 n - 1 := by omega
      subst hz
      have hle := mo_ct8_le (mo_p2 n - 1)
      refine mw_iload hG a265_2 rfl ?_
      refine mw_iload hG a265_3 rfl ?_
      refine mw_icmp_eq hG a265_4 (by omega) (by omega) (fun z4 => ?_) (fun z4 => by exfalso; omega)
      refine mw_vret hG a265_75 (hF _ _ _ ⟨rfl, rfl, _, _, hV, hK, hQ, hB, _, b20, ?_, ?_⟩)
      · omega
      · omega
    | succ m ih =>
      intro p ld v4 h R2 B2 h1 h2 h3 h4 hV hK hQ hB b0 b20
      have hle := mo_ct8_le p
      have l10 : p < mo_p2 n - 1 → ∀ (i0 : Nat), i0 < n → p.testBit i0 = false → R 123 ((p + mo_p2 i0 : Nat) : Int) ≠ 0 → ∀ (j i : Nat), i + j = i0 → G 10 [(2, 83, 0), mw_i (((mo_p2 n - 1 : Nat) : Int)), mw_i (n : Int), mw_i (p : Int), mw_i (i : Int)] [] E h := by
        intro hlt i0 hi0 hb0 hw0 j
        have hp256 : p < 256 := by omega
        have hup := mo_up n (by omega) p (by omega)
        have t39 : ∀ (i : Nat), i < n → p.testBit i = false → R 123 ((p + mo_p2 i : Nat) : Int) ≠ 0 → G 39 [(2, 83, 0), mw_i (((mo_p2 n - 1 : Nat) : Int)), mw_i (n : Int), mw_i (p : Int), mw_i (i : Int)] [] E h := by
          intro i hi hb hw
          have hu := hup i hi hb
          have hp1 : 1 ≤ mo_p2 i := Nat.two_pow_pos i
          have hc := ((mo_bits p hp256 i (by omega)).2 hb).2.2
          have hcl := mo_ct8_le (p + mo_p2 i)
          have hc2 : mo_ct8 (p + mo_p2 i) = mo_ct8 p + 1 := hc
          refine mw_aload hG a265_39 rfl ?_
          refine mo_geta hG hV a265_40 rfl ?_
          refine mw_aload hG a265_43 rfl ?_
          refine mo_g20 hG hV a265_44 b20 ?_
          refine mw_aload hG a265_47 rfl ?_
          refine mo_geta hG hV a265_48 rfl ?_
          refine mw_iload hG a265_51 rfl ?_
          refine mo_ald hG hV a265_53 rfl (by omega) ?_
          refine mo_ist hG hV a265_54 rfl (by omega) fun h R54 hV hR54 => ?_
          have hK := hK.p119 hR54 trivial
          have hQ := hQ.up hR54 (by decide)
          refine mw_aload hG a265_55 rfl ?_
          refine mw_dup hG a265_56 rfl ?_
          refine mo_g20 hG hV a265_57 b20 ?_
          refine mw_push hG a265_60 mw_c1 ?_
          refine mw_add hG a265_61 ?_
          refine mo_p20 hG hV a265_62 fun h B62 hV nb62 vb62 => ?_
          have hB := hB.up nb62 (by decide)
          have b0 := (nb62 0 (by decide)).trans b0
          have b20 : B62 20 = _ := vb62
          refine mw_iload hG a265_65 rfl ?_
          refine mw_push hG a265_66 mw_c1 ?_
          refine mw_iload hG a265_67 rfl ?_
          refine mw_any hG a265_69 ?_
          refine mw_any hG a265_70 ?_
          rw [mo_or hp256 (show i < 8 by omega) hb]
          refine mw_istore hG a265_71 rfl (Nat.le_of_ble_eq_true rfl) rfl ?_
          refine mw_goto hG a265_72 ?_
          exact ih (p + mo_p2 i) (ld + 1) _ _ _ _ (by omega) (by omega) (by omega) hw hV hK hQ hB b0 (b20.trans (by omega))
        induction j with
        | zero =>
          intro i hi
          have hii : i = i0 := by omega
          subst hii
          have hi8 : i < 8 := by omega
          have hbt := mo_bt hp256 hi8
          refine mw_iload hG a265_10 rfl ?_
          refine mw_iload hG a265_11 rfl ?_
          refine mw_sp2 hG a265_13 (mo_has hen (by omega)) rfl (by omega) fun y13 hy13 => ?_
          have hz13 := hy13.1
          have hy13b : y13 = 0 := by
            rcases hz13 with hz | hz
            · exact hz
            · exfalso
              have := hy13.2.mp hz
              rw [hbt, hb0] at this
              cases this
          refine mw_ifc_ne hG a265_16 (by omega) (fun z16 => by exfalso; omega) (fun z16 => ?_)
          refine mw_aload hG a265_19 rfl ?_
          refine mo_geta hG hV a265_20 rfl ?_
          refine mw_iload hG a265_23 rfl ?_
          refine mw_push hG a265_24 mw_c1 ?_
          refine mw_iload hG a265_25 rfl ?_
          refine mw_any hG a265_27 ?_
          refine mw_any hG a265_28 ?_
          rw [mo_or hp256 hi8 hb0]
          have hu29 := hup i (by omega) hb0
          refine mo_ald hG hV a265_29 rfl (by omega) ?_
          have e123 : R2 123 ((p + mo_p2 i : Nat) : Int) = R 123 ((p + mo_p2 i : Nat) : Int) := hQ 123 _ (by decide)
          have g123 := hK.g123 (i := ((p + mo_p2 i : Nat) : Int)) (by omega)
          refine mw_ifc_ne hG a265_30 (by omega) (fun z30 => ?_) (fun z30 => by exfalso; omega)
          exact t39 i (by omega) hb0 hw0
        | succ j ih3 =>
          intro i hi
          have hi8 : i < 8 := by omega
          have hbt := mo_bt hp256 hi8
          refine mw_iload hG a265_10 rfl ?_
          refine mw_iload hG a265_11 rfl ?_
          refine mw_sp2 hG a265_13 (mo_has hen (by omega)) rfl (by omega) fun y13 hy13 => ?_
          have hz13 := hy13.1
          refine mw_ifc_ne hG a265_16 (by omega) (fun z16 => ?_) (fun z16 => ?_)
          · refine mw_iinc hG a265_33 mw_c1 rfl rfl rfl ?_
            refine mw_goto hG a265_36 ?_
            exact ih3 (i + 1) (by omega)
          · have hnb : p.testBit i = false := by
              cases hpb : p.testBit i
              · rfl
              · exfalso
                have := hy13.2.mpr (hbt.trans hpb)
                omega
            have hu29 := hup i (by omega) hnb
            refine mw_aload hG a265_19 rfl ?_
            refine mo_geta hG hV a265_20 rfl ?_
            refine mw_iload hG a265_23 rfl ?_
            refine mw_push hG a265_24 mw_c1 ?_
            refine mw_iload hG a265_25 rfl ?_
            refine mw_any hG a265_27 ?_
            refine mw_any hG a265_28 ?_
            rw [mo_or hp256 hi8 hnb]
            refine mo_ald hG hV a265_29 rfl (by omega) ?_
            have e123 : R2 123 ((p + mo_p2 i : Nat) : Int) = R 123 ((p + mo_p2 i : Nat) : Int) := hQ 123 _ (by decide)
            have g123 := hK.g123 (i := ((p + mo_p2 i : Nat) : Int)) (by omega)
            refine mw_ifc_ne hG a265_30 (by omega) (fun z30 => ?_) (fun z30 => ?_)
            · exact t39 i (by omega) hnb (by rw [← e123]; exact z30)
            · refine mw_iinc hG a265_33 mw_c1 rfl rfl rfl ?_
              refine mw_goto hG a265_36 ?_
              exact ih3 (i + 1) (by omega)
      refine mw_iload hG a265_2 rfl ?_
      refine mw_iload hG a265_3 rfl ?_
      refine mw_icmp_eq hG a265_4 (by omega) (by omega) (fun z4 => ?_) (fun z4 => ?_)
      · refine mw_vret hG a265_75 (hF _ _ _ ⟨rfl, rfl, _, _, hV, hK, hQ, hB, _, b20, ?_, ?_⟩)
        · omega
        · omega
      · refine mw_push hG a265_7 mw_c0 ?_
        refine mw_istore hG a265_8 rfl (Nat.le_of_ble_eq_true rfl) rfl ?_
        have hlt : p < mo_p2 n - 1 := by omega
        obtain ⟨i0, w1, w2, w3⟩ := hW p (by omega) hlt h4
        exact l10 hlt i0 w1 w2 w3 i0 0 (by omega)
  have hct0 : mo_ct8 0 = 0 := by decide +kernel
  refine mw_push hG a265_0 mw_c0 ?_
  refine mw_istore hG a265_1 rfl (Nat.le_of_ble_eq_true rfl) rfl ?_
  exact l2 (mo_p2 n - 1) 0 0 _ _ _ _ (by omega) (by omega) hct0.symm h123 hV hK (mo_fr.rf _ _) (mo_bf.rf _ _) b0 b20
