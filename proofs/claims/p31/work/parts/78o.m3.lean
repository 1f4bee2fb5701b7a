/-! THE REFERENCE'S ORDERS: orders -/
theorem mo_W.up {R R2 : Nat → Int → Int} {n lo : Nat} {i z : Int} (h : mo_W R n lo) (hR : R2 = mu R 123 i z) (hi : i < lo) : mo_W R2 n lo := fun p h1 h2 h3 => by
  subst hR
  rw [mu_n (by omega)] at h3
  obtain ⟨j, j1, j2, j3⟩ := h p h1 h2 h3
  exact ⟨j, j1, j2, by rw [mu_n (by omega)]; exact j3⟩
theorem mo_W.fr {R R2 : Nat → Int → Int} {n lo : Nat} (h : mo_W R n lo) (hR : ∀ i, R2 123 i = R 123 i) : mo_W R2 n lo := fun p h1 h2 h3 => by
  rw [hR] at h3
  obtain ⟨j, j1, j2, j3⟩ := h p h1 h2 h3
  exact ⟨j, j1, j2, by rw [hR]; exact j3⟩
/-- what a part's ways stand on, after its first i cells -/
def mo_X (R : Nat → Int → Int) (n m i : Nat) : Prop := R 123 (m : Int) ≠ 0 → m = mo_p2 n - 1 ∨ ∃ j, j < i ∧ m.testBit j = false ∧ R 123 ((m + mo_p2 j : Nat) : Int) ≠ 0
theorem mo_X.s {R : Nat → Int → Int} {n m i : Nat} (h : mo_X R n m i) : mo_X R n m (i + 1) := fun h3 => by
  rcases h h3 with h | ⟨j, j1, j2, j3⟩
  · exact Or.inl h
  · exact Or.inr ⟨j, by omega, j2, j3⟩
theorem mo_X.add {R R2 : Nat → Int → Int} {n m i : Nat} (h : mo_X R n m i) (hr : -2147483648 ≤ R 123 (m : Int) ∧ R 123 (m : Int) < 2147483648) (hb : m.testBit i = false) (hR : R2 = mu R 123 (m : Int) (mw_n (R 123 (m : Int) + R 123 ((m + mo_p2 i : Nat) : Int)))) : mo_X R2 n m (i + 1) := fun h3 => by
  subst hR
  have hp : ∀ x, 1 ≤ mo_p2 x := fun x => Nat.two_pow_pos x
  by_cases hz : R 123 ((m + mo_p2 i : Nat) : Int) = 0
  · rw [mu_e, hz, Int.add_zero, mw_nn hr] at h3
    rcases h h3 with h | ⟨j, j1, j2, j3⟩
    · exact Or.inl h
    · exact Or.inr ⟨j, by omega, j2, by rw [mu_n (by have := hp j; omega)]; exact j3⟩
  · exact Or.inr ⟨i, by omega, hb, by rw [mu_n (by have := hp i; omega)]; exact hz⟩
theorem mo_W.dn {R : Nat → Int → Int} {n m : Nat} (h : mo_W R n (m + 1)) (hx : m < mo_p2 n - 1 → R 123 (m : Int) ≠ 0 → ∃ i, i < n ∧ m.testBit i = false ∧ R 123 ((m + mo_p2 i : Nat) : Int) ≠ 0) : mo_W R n m := fun p h1 h2 h3 => by
  by_cases hp : p = m
  · subst hp
    exact hx h2 h3
  · exact h p (by omega) h2 h3
theorem mo_W.top {R : Nat → Int → Int} {n : Nat} : mo_W R n (mo_p2 n) := fun p h1 h2 _ => by omega
set_option maxHeartbeats 16000000 in
set_option maxRecDepth 20000 in
theorem mo_orders (hen : en_ok) {lc : Launch} {h0 h : ev_H} {E : e2_E} {B : Nat → Int} {fk a fp en tok num : Int} {nm : Nat} {cs wi pi ui : Int} {R : Nat → Int → Int} {bk W M : Int} (hV : mo_V h0 h (mw_o B fk a fp en tok num nm cs wi pi ui) R) (b0 : B 0 = bk) (hK : mo_K R bk W M) {st tm : Int} (hst : -2147483648 ≤ st ∧ st < 2147483648) (b11 : B 11 = tm) (ht : 0 ≤ tm ∧ tm ≤ 20) {ld0 : Int} (b20 : B 20 = ld0) : mw_Ci lc 6 263 [(2, 83, 0), mw_i st] E h (fun _ h' => ∃ R2 B2, mo_V h0 h' (mw_o B2 fk a fp en tok num nm cs wi pi ui) R2 ∧ mo_K R2 bk W M ∧ mo_fr [111, 113, 114, 115, 116, 117, 119, 122, 123] R R2 ∧ mo_bf [11, 20, 61, 62, 63, 64, 65] B B2 ∧ ∃ tm ld, B2 11 = tm ∧ B2 20 = ld ∧ 0 ≤ tm ∧ tm ≤ 20 ∧ 0 ≤ ld ∧ ld ≤ 20) := by
  refine mw_con (D := 5) (C := evd_263) (X := e2x_263) [] hen ei_263 ex2_263 (Nat.le_of_ble_eq_true rfl) fun d0 F G hd hF hG => ?_
  show G 0 [(2, 83, 0), mw_i st, (9, 0, 0), (9, 0, 0), (9, 0, 0), (9, 0, 0)] [] E h
  have kk := hK.2.2.1
  have t83 : ∀ (n : Nat), n ≤ 8 → ∀ (m : Nat) (pp : Int) (v5 : ev_V) (h : ev_H) (R3 : Nat → Int → Int) (B3 : Nat → Int) (tm3 : Int), pp = (m : Int) - 1 → m ≤ mo_p2 n → mo_W R3 n m → mo_V h0 h (mw_o B3 fk a fp en tok num nm cs wi pi ui) R3 → mo_K R3 bk W M → mo_fr [111, 113, 114, 115, 116, 117, 119, 122, 123] R R3 → mo_bf [11, 20, 61, 62, 63, 64, 65] B B3 → B3 0 = bk → B3 11 = tm3 → B3 20 = 0 → 0 ≤ tm3 → tm3 ≤ 20 → G 83 [(2, 83, 0), mw_i st, mw_i (n : Int), mw_i (((mo_p2 n - 1 : Nat) : Int)), mw_i pp, v5] [] E h := by
    intro n hn m
    have hn2 := mo_full n (by omega)
    induction m with
    | zero =>
      intro pp v5 h R3 B3 tm3 h1 h2 hW hV hK hQ hB b0 b11 b20 ht3 hu3
      have g123 := hK.g123 (i := 0) (by omega)
      refine mw_iload hG a263_83 rfl ?_
      refine mw_ifc_lt hG a263_85 (by omega) (fun z85 => ?_) (fun z85 => by exfalso; omega)
      refine mw_aload hG a263_192 rfl ?_
      refine mo_geta hG hV a263_193 rfl ?_
      refine mw_push hG a263_196 mw_c0 ?_
      refine mo_ald hG hV a263_197 rfl (by omega) ?_
      refine mw_ifc_le hG a263_198 (by omega) (fun z198 => ?_) (fun z198 => ?_)
      · refine mw_aload hG a263_207 rfl ?_
        refine mo_geta hG hV a263_208 rfl ?_
        refine mw_push hG a263_211 mw_c0 ?_
        refine mo_ald hG hV a263_212 rfl (by omega) ?_
        refine mw_iret hG a263_213 (Or.inl rfl) (hF _ _ _ ⟨rfl, _, rfl, _, _, hV, hK, hQ, hB, _, _, b11, b20, by omega, by omega, by omega, by omega⟩)
      · refine mw_aload hG a263_201 rfl ?_
        refine mw_iload hG a263_202 rfl ?_
        refine mw_iload hG a263_203 rfl ?_
        refine mo_vv2 hG hV a263_204 (mo_layOrder hen hV b0 hK hn b20 hW (by omega)) rfl (by omega) fun h hq204 => ?_
        obtain ⟨R204, B204, hV, hK, hf204, hbf204, ld204, b20, l1204, l2204⟩ := hq204
        have b0 : B204 0 = bk := (hbf204 0 (by decide)).trans b0
        have b11 : B204 11 = tm3 := (hbf204 11 (by decide)).trans b11
        have hQ := hQ.tr hf204 (by decide)
        have hB := hB.tr hbf204 (by decide)
        refine mw_aload hG a263_207 rfl ?_
        refine mo_geta hG hV a263_208 rfl ?_
        refine mw_push hG a263_211 mw_c0 ?_
        refine mo_ald hG hV a263_212 rfl (by omega) ?_
        refine mw_iret hG a263_213 (Or.inl rfl) (hF _ _ _ ⟨rfl, _, rfl, _, _, hV, hK, hQ, hB, _, _, b11, b20, by omega, by omega, by omega, by omega⟩)
    | succ m ih =>
      intro pp v5 h R3 B3 tm3 h1 h2 hW hV hK hQ hB b0 b11 b20 ht3 hu3
      have hm : pp = (m : Int) := by omega
      subst hm
      have hm256 : m < 256 := by omega
      have t186 : ∀ (v5 : ev_V) (h : ev_H) (R3 : Nat → Int → Int) (B3 : Nat → Int) (tm3 : Int), mo_W R3 n (m + 1) → (m < mo_p2 n - 1 → R3 123 (m : Int) ≠ 0 → ∃ i, i < n ∧ m.testBit i = false ∧ R3 123 ((m + mo_p2 i : Nat) : Int) ≠ 0) → mo_V h0 h (mw_o B3 fk a fp en tok num nm cs wi pi ui) R3 → mo_K R3 bk W M → mo_fr [111, 113, 114, 115, 116, 117, 119, 122, 123] R R3 → mo_bf [11, 20, 61, 62, 63, 64, 65] B B3 → B3 0 = bk → B3 11 = tm3 → B3 20 = 0 → 0 ≤ tm3 → tm3 ≤ 20 → G 186 [(2, 83, 0), mw_i st, mw_i (n : Int), mw_i (((mo_p2 n - 1 : Nat) : Int)), mw_i (m : Int), v5] [] E h := by
        intro v5 h R3 B3 tm3 hW hx hV hK hQ hB b0 b11 b20 ht3 hu3
        refine mw_iinc hG a263_186 mw_cm1 rfl rfl rfl ?_
        refine mw_goto hG a263_189 ?_
        exact ih _ _ _ _ _ _ (by omega) (by omega) (hW.dn hx) hV hK hQ hB b0 b11 b20 ht3 hu3
      have t153 : ∀ (v5 : ev_V) (h : ev_H) (R3 : Nat → Int → Int) (B3 : Nat → Int) (tm3 : Int), mo_W R3 n (m + 1) → mo_X R3 n m n → mo_V h0 h (mw_o B3 fk a fp en tok num nm cs wi pi ui) R3 → mo_K R3 bk W M → mo_fr [111, 113, 114, 115, 116, 117, 119, 122, 123] R R3 → mo_bf [11, 20, 61, 62, 63, 64, 65] B B3 → B3 0 = bk → B3 11 = tm3 → B3 20 = 0 → 0 ≤ tm3 → tm3 ≤ 20 → G 153 [(2, 83, 0), mw_i st, mw_i (n : Int), mw_i (((mo_p2 n - 1 : Nat) : Int)), mw_i (m : Int), v5] [] E h := by
        intro v5 h R3 B3 tm3 hW hX hV hK hQ hB b0 b11 b20 ht3 hu3
        have g123 := hK.g123 (i := (m : Int)) (by omega)
        refine mw_iload hG a263_153 rfl ?_
        refine mw_ifc_le hG a263_155 (by omega) (fun z155 => ?_) (fun z155 => ?_)
        · first | exact t186 _ _ _ _ _ hW (fun hl h3 => (hX h3).elim (fun e => absurd hl (by omega)) id) hV hK hQ hB b0 b11 b20 ht3 hu3 | exact t186 _ _ _ _ _ (hW.fr e123) (fun hl h3 => by rw [e123] at h3; obtain ⟨j, j1, j2, j3⟩ := (fun hl h3 => (hX h3).elim (fun e => absurd hl (by omega)) id) hl h3; exact ⟨j, j1, j2, by rw [e123]; exact j3⟩) hV hK hQ hB b0 b11 b20 (by omega) (by omega) | exact t186 _ _ _ _ _ ((hW.fr e123).up hR185 (by omega)) (fun _ h3 => absurd (by rw [hR185, mu_e]) h3) hV hK hQ hB b0 b11 b20 (by omega) (by omega)
        · refine mw_aload hG a263_158 rfl ?_
          refine mo_geta hG hV a263_159 rfl ?_
          refine mw_iload hG a263_162 rfl ?_
          refine mo_ald hG hV a263_164 rfl (by omega) ?_
          refine mw_ifc_le hG a263_165 (by omega) (fun z165 => ?_) (fun z165 => ?_)
          · first | exact t186 _ _ _ _ _ hW (fun hl h3 => (hX h3).elim (fun e => absurd hl (by omega)) id) hV hK hQ hB b0 b11 b20 ht3 hu3 | exact t186 _ _ _ _ _ (hW.fr e123) (fun hl h3 => by rw [e123] at h3; obtain ⟨j, j1, j2, j3⟩ := (fun hl h3 => (hX h3).elim (fun e => absurd hl (by omega)) id) hl h3; exact ⟨j, j1, j2, by rw [e123]; exact j3⟩) hV hK hQ hB b0 b11 b20 (by omega) (by omega) | exact t186 _ _ _ _ _ ((hW.fr e123).up hR185 (by omega)) (fun _ h3 => absurd (by rw [hR185, mu_e]) h3) hV hK hQ hB b0 b11 b20 (by omega) (by omega)
          · refine mw_aload hG a263_168 rfl ?_
            refine mw_iload hG a263_169 rfl ?_
            refine mw_iload hG a263_171 rfl ?_
            refine mo_vi2 hG hV a263_172 (mo_isHarmBy hen hV b0 hK (by omega)) rfl (by omega) fun v172 h hq172 => ?_
            obtain ⟨hv172, R172, B172, hV, hK, hf172, hbf172, tm172, b11, ht172, hu172⟩ := hq172
            have b0 : B172 0 = bk := (hbf172 0 (by decide)).trans b0
            have b20 : B172 20 = 0 := (hbf172 20 (by decide)).trans b20
            have hQ := hQ.tr hf172 (by decide)
            have hB := hB.tr hbf172 (by decide)
            have e123 : ∀ i, R172 123 i = R3 123 i := fun i => hf172 123 i (by decide)
            refine mw_ifc_eq hG a263_175 (by omega) (fun z175 => ?_) (fun z175 => ?_)
            · first | exact t186 _ _ _ _ _ hW (fun hl h3 => (hX h3).elim (fun e => absurd hl (by omega)) id) hV hK hQ hB b0 b11 b20 ht3 hu3 | exact t186 _ _ _ _ _ (hW.fr e123) (fun hl h3 => by rw [e123] at h3; obtain ⟨j, j1, j2, j3⟩ := (fun hl h3 => (hX h3).elim (fun e => absurd hl (by omega)) id) hl h3; exact ⟨j, j1, j2, by rw [e123]; exact j3⟩) hV hK hQ hB b0 b11 b20 (by omega) (by omega) | exact t186 _ _ _ _ _ ((hW.fr e123).up hR185 (by omega)) (fun _ h3 => absurd (by rw [hR185, mu_e]) h3) hV hK hQ hB b0 b11 b20 (by omega) (by omega)
            · refine mw_aload hG a263_178 rfl ?_
              refine mo_geta hG hV a263_179 rfl ?_
              refine mw_iload hG a263_182 rfl ?_
              refine mw_push hG a263_184 mw_c0 ?_
              refine mo_ist hG hV a263_185 rfl (by omega) fun h R185 hV hR185 => ?_
              have hK := hK.p123 hR185 (by omega)
              have hQ := hQ.up hR185 (by decide)
              first | exact t186 _ _ _ _ _ hW (fun hl h3 => (hX h3).elim (fun e => absurd hl (by omega)) id) hV hK hQ hB b0 b11 b20 ht3 hu3 | exact t186 _ _ _ _ _ (hW.fr e123) (fun hl h3 => by rw [e123] at h3; obtain ⟨j, j1, j2, j3⟩ := (fun hl h3 => (hX h3).elim (fun e => absurd hl (by omega)) id) hl h3; exact ⟨j, j1, j2, by rw [e123]; exact j3⟩) hV hK hQ hB b0 b11 b20 (by omega) (by omega) | exact t186 _ _ _ _ _ ((hW.fr e123).up hR185 (by omega)) (fun _ h3 => absurd (by rw [hR185, mu_e]) h3) hV hK hQ hB b0 b11 b20 (by omega) (by omega)
      have l109 : ∀ (j i : Nat) (ii : Int) (h : ev_H) (R3 : Nat → Int → Int) (B3 : Nat → Int) (tm3 : Int), ii = (i : Int) → i + j = n → mo_W R3 n (m + 1) → mo_X R3 n m i → mo_V h0 h (mw_o B3 fk a fp en tok num nm cs wi pi ui) R3 → mo_K R3 bk W M → mo_fr [111, 113, 114, 115, 116, 117, 119, 122, 123] R R3 → mo_bf [11, 20, 61, 62, 63, 64, 65] B B3 → B3 0 = bk → B3 11 = tm3 → B3 20 = 0 → 0 ≤ tm3 → tm3 ≤ 20 → G 109 [(2, 83, 0), mw_i st, mw_i (n : Int), mw_i (((mo_p2 n - 1 : Nat) : Int)), mw_i (m : Int), mw_i ii] [] E h := by
        intro j
        induction j with
        | zero =>
          intro i ii h R3 B3 tm3 hi hij hW hX hV hK hQ hB b0 b11 b20 ht3 hu3
          have hin : i = n := by omega
          subst hin
          refine mw_iload hG a263_109 rfl ?_
          refine mw_iload hG a263_111 rfl ?_
          refine mw_icmp_ge hG a263_112 (by omega) (by omega) (fun z112 => ?_) (fun z112 => by exfalso; omega)
          exact t153 _ _ _ _ _ hW hX hV hK hQ hB b0 b11 b20 ht3 hu3
        | succ j ih3 =>
          intro i ii h R3 B3 tm3 hi hij hW hX hV hK hQ hB b0 b11 b20 ht3 hu3
          subst hi
          have hi8 : i < 8 := by omega
          have hbt := mo_bt hm256 hi8
          have g123 := hK.g123 (i := (m : Int)) (by omega)
          refine mw_iload hG a263_109 rfl ?_
          refine mw_iload hG a263_111 rfl ?_
          refine mw_icmp_ge hG a263_112 (by omega) (by omega) (fun z112 => by exfalso; omega) (fun z112 => ?_)
          refine mw_iload hG a263_115 rfl ?_
          refine mw_iload hG a263_117 rfl ?_
          refine mw_sp2 hG a263_119 (mo_has hen (by omega)) rfl (by omega) fun y119 hy119 => ?_
          have hz119 := hy119.1
          refine mw_ifc_ne hG a263_122 (by omega) (fun z122 => ?_) (fun z122 => ?_)
          · refine mw_iinc hG a263_147 mw_c1 rfl rfl rfl ?_
            refine mw_goto hG a263_150 ?_
            first | exact ih3 (i + 1) _ _ _ _ _ (by omega) (by omega) (hW.up hR146 (by omega)) (hX.add (by omega) hnb hR146) hV hK hQ hB b0 b11 b20 ht3 hu3 | exact ih3 (i + 1) _ _ _ _ _ (by omega) (by omega) hW hX.s hV hK hQ hB b0 b11 b20 ht3 hu3
          · have hnb : m.testBit i = false := by
              cases hpb : m.testBit i
              · rfl
              · exfalso
                have := hy119.2.mpr (hbt.trans hpb)
                omega
            have hu := mo_up n (by omega) m (by omega) i (by omega) hnb
            refine mw_aload hG a263_125 rfl ?_
            refine mo_geta hG hV a263_126 rfl ?_
            refine mw_iload hG a263_129 rfl ?_
            refine mw_dup2 hG a263_131 rfl rfl ?_
            refine mo_ald hG hV a263_132 rfl (by omega) ?_
            refine mw_aload hG a263_133 rfl ?_
            refine mo_geta hG hV a263_134 rfl ?_
            refine mw_iload hG a263_137 rfl ?_
            refine mw_push hG a263_139 mw_c1 ?_
            refine mw_iload hG a263_140 rfl ?_
            refine mw_any hG a263_142 ?_
            refine mw_any hG a263_143 ?_
            rw [mo_or hm256 hi8 hnb]
            refine mo_ald hG hV a263_144 rfl (by omega) ?_
            refine mw_add hG a263_145 ?_
            refine mw_norm ?_
            refine mo_ist hG hV a263_146 rfl (by omega) fun h R146 hV hR146 => ?_
            have hK := hK.p123 hR146 (mw_rn2 _)
            have hQ := hQ.up hR146 (by decide)
            refine mw_iinc hG a263_147 mw_c1 rfl rfl rfl ?_
            refine mw_goto hG a263_150 ?_
            first | exact ih3 (i + 1) _ _ _ _ _ (by omega) (by omega) (hW.up hR146 (by omega)) (hX.add (by omega) hnb hR146) hV hK hQ hB b0 b11 b20 ht3 hu3 | exact ih3 (i + 1) _ _ _ _ _ (by omega) (by omega) hW hX.s hV hK hQ hB b0 b11 b20 ht3 hu3
      have t106 : ∀ (v5 : ev_V) (h : ev_H) (R3 : Nat → Int → Int) (B3 : Nat → Int) (tm3 : Int), mo_W R3 n (m + 1) → mo_X R3 n m 0 → mo_V h0 h (mw_o B3 fk a fp en tok num nm cs wi pi ui) R3 → mo_K R3 bk W M → mo_fr [111, 113, 114, 115, 116, 117, 119, 122, 123] R R3 → mo_bf [11, 20, 61, 62, 63, 64, 65] B B3 → B3 0 = bk → B3 11 = tm3 → B3 20 = 0 → 0 ≤ tm3 → tm3 ≤ 20 → G 106 [(2, 83, 0), mw_i st, mw_i (n : Int), mw_i (((mo_p2 n - 1 : Nat) : Int)), mw_i (m : Int), v5] [] E h := by
        intro v5 h R3 B3 tm3 hW hX hV hK hQ hB b0 b11 b20 ht3 hu3
        refine mw_push hG a263_106 mw_c0 ?_
        refine mw_istore hG a263_107 rfl (Nat.le_of_ble_eq_true rfl) rfl ?_
        exact l109 n 0 _ _ _ _ _ (by omega) (by omega) hW hX hV hK hQ hB b0 b11 b20 ht3 hu3
      refine mw_iload hG a263_83 rfl ?_
      refine mw_ifc_lt hG a263_85 (by omega) (fun z85 => by exfalso; omega) (fun z85 => ?_)
      refine mw_aload hG a263_88 rfl ?_
      refine mo_geta hG hV a263_89 rfl ?_
      refine mw_iload hG a263_92 rfl ?_
      refine mw_iload hG a263_94 rfl ?_
      refine mw_iload hG a263_96 rfl ?_
      refine mw_icmp_ne hG a263_97 (by omega) (by omega) (fun z97 => ?_) (fun z97 => ?_)
      · refine mw_push hG a263_104 mw_c0 ?_
        refine mo_ist hG hV a263_105 rfl (by omega) fun h R105 hV hR105 => ?_
        have hK := hK.p123 hR105 (by omega)
        have hQ := hQ.up hR105 (by decide)
        refine t106 _ _ _ _ _ (hW.up hR105 (by omega)) (fun h3 => ?_) hV hK hQ hB b0 b11 b20 ht3 hu3
        rw [hR105, mu_e] at h3
        first | exact Or.inl (by omega) | exact absurd rfl h3
      · refine mw_push hG a263_100 mw_c1 ?_
        refine mw_goto hG a263_101 ?_
        refine mo_ist hG hV a263_105 rfl (by omega) fun h R105 hV hR105 => ?_
        have hK := hK.p123 hR105 (by omega)
        have hQ := hQ.up hR105 (by decide)
        refine t106 _ _ _ _ _ (hW.up hR105 (by omega)) (fun h3 => ?_) hV hK hQ hB b0 b11 b20 ht3 hu3
        rw [hR105, mu_e] at h3
        first | exact Or.inl (by omega) | exact absurd rfl h3
  have l39 : ∀ (mm c : Nat) (nn cc : Int) (h : ev_H) (R3 : Nat → Int → Int) (B3 : Nat → Int) (tm3 : Int), nn = ((mw_ct (Int32.ofInt st) c : Nat) : Int) → cc = (c : Int) → (c : Int) + mm = W → mw_ct (Int32.ofInt st) 32 ≤ 8 → mo_V h0 h (mw_o B3 fk a fp en tok num nm cs wi pi ui) R3 → mo_K R3 bk W M → mo_fr [111, 113, 114, 115, 116, 117, 119, 122, 123] R R3 → mo_bf [11, 20, 61, 62, 63, 64, 65] B B3 → B3 0 = bk → B3 11 = tm3 → B3 20 = 0 → 0 ≤ tm3 → tm3 ≤ 20 → G 39 [(2, 83, 0), mw_i st, mw_i nn, mw_i cc, (9, 0, 0), (9, 0, 0)] [] E h := by
    intro mm
    induction mm with
    | zero =>
      intro c nn cc h R3 B3 tm3 h1 h2 h3 h8 hV hK hQ hB b0 b11 b20 ht3 hu3
      have hmo := mw_ct_mono (Int32.ofInt st) c (32 - c)
      rw [show c + (32 - c) = 32 by omega] at hmo
      refine mw_iload hG a263_39 rfl ?_
      refine mw_aload hG a263_40 rfl ?_
      refine mo_vp0 hG hV a263_41 (mo_width hen hV b0 hK) rfl (by omega) fun y41 hy41 => ?_
      rw [hy41]
      refine mw_icmp_ge hG a263_44 (by omega) (by omega) (fun z44 => ?_) (fun z44 => by exfalso; omega)
      refine mw_push hG a263_74 mw_c1 ?_
      refine mw_iload hG a263_75 rfl ?_
      refine mw_any hG a263_76 ?_
      refine mw_push hG a263_77 mw_c1 ?_
      refine mw_sub hG a263_78 ?_
      generalize hnn : mw_ct (Int32.ofInt st) c = n at h1 hmo
      have hn2 := mo_full n (by omega)
      subst h1
      rw [show (eb_shl (Int32.ofInt 1) (Int32.ofInt (n : Int))).toInt - 1 = ((mo_p2 n - 1 : Nat) : Int) by rw [mo_ev, show Int32.ofInt 1 = ev_i 1 from mo_ev (n := 1)]; exact hn2.1]
      refine mw_istore hG a263_79 rfl (Nat.le_of_ble_eq_true rfl) rfl ?_
      refine mw_iload hG a263_80 rfl ?_
      refine mw_istore hG a263_81 rfl (Nat.le_of_ble_eq_true rfl) rfl ?_
      exact t83 n (by omega) (mo_p2 n) _ _ _ _ _ _ (by omega) (by omega) mo_W.top hV hK hQ hB b0 b11 b20 ht3 hu3
    | succ mm ih =>
      intro c nn cc h R3 B3 tm3 h1 h2 h3 h8 hV hK hQ hB b0 b11 b20 ht3 hu3
      have hmo := mw_ct_mono (Int32.ofInt st) (c + 1) (32 - (c + 1))
      rw [show c + 1 + (32 - (c + 1)) = 32 by omega] at hmo
      have hcs := mw_ct_s (Int32.ofInt st) c
      subst h2
      refine mw_iload hG a263_39 rfl ?_
      refine mw_aload hG a263_40 rfl ?_
      refine mo_vp0 hG hV a263_41 (mo_width hen hV b0 hK) rfl (by omega) fun y41 hy41 => ?_
      rw [hy41]
      refine mw_icmp_ge hG a263_44 (by omega) (by omega) (fun z44 => by exfalso; omega) (fun z44 => ?_)
      refine mw_iload hG a263_47 rfl ?_
      refine mw_iload hG a263_48 rfl ?_
      refine mw_sp2 hG a263_49 (mo_has hen (by omega)) rfl (by omega) fun y49 hy49 => ?_
      have hz49 := hy49.1
      refine mw_ifc_ne hG a263_52 (by omega) (fun z52 => ?_) (fun z52 => ?_)
      · have hbb : sy_bt (Int32.ofInt st) c = true := by
          have := hy49.1
          have := hy49.2.mp (by omega)
          rw [Int.toNat_natCast] at this
          exact this
        rw [if_pos hbb] at hcs
        refine mw_aload hG a263_58 rfl ?_
        refine mo_geta hG hV a263_59 rfl ?_
        refine mw_iload hG a263_62 rfl ?_
        refine mw_iload hG a263_63 rfl ?_
        refine mo_ist hG hV a263_64 rfl (by omega) fun h R64 hV hR64 => ?_
        have hK := hK.p122 hR64 (by omega)
        have hQ := hQ.up hR64 (by decide)
        refine mw_iinc hG a263_65 mw_c1 rfl rfl rfl ?_
        refine mw_iinc hG a263_68 mw_c1 rfl rfl rfl ?_
        refine mw_goto hG a263_71 ?_
        exact ih (c + 1) _ _ _ _ _ _ (by omega) (by omega) (by omega) h8 hV hK hQ hB b0 b11 b20 ht3 hu3
      · have hbb : ¬ sy_bt (Int32.ofInt st) c = true := fun hbb => by
          have := hy49.2.mpr (by rw [Int.toNat_natCast]; exact hbb)
          omega
        rw [if_neg hbb] at hcs
        refine mw_goto hG a263_55 ?_
        refine mw_iinc hG a263_68 mw_c1 rfl rfl rfl ?_
        refine mw_goto hG a263_71 ?_
        exact ih (c + 1) _ _ _ _ _ _ (by omega) (by omega) (by omega) h8 hV hK hQ hB b0 b11 b20 ht3 hu3
  have hQ := mo_fr.rf [111, 113, 114, 115, 116, 117, 119, 122, 123] R
  have hB := mo_bf.rf [11, 20, 61, 62, 63, 64, 65] B
  refine mw_aload hG a263_0 rfl ?_
  refine mw_push hG a263_1 mw_c0 ?_
  refine mo_p20 hG hV a263_2 fun h B2 hV nb2 vb2 => ?_
  have hB := hB.up nb2 (by decide)
  have b0 := (nb2 0 (by decide)).trans b0
  have b11 := (nb2 11 (by decide)).trans b11
  have b20 : B2 20 = _ := vb2
  refine mw_iload hG a263_5 rfl ?_
  refine mw_ifc_lt hG a263_6 (by omega) (fun z6 => ?_) (fun z6 => ?_)
  · refine mw_push hG a263_29 mw_cm1 ?_
    refine mw_iret hG a263_30 (Or.inl rfl) (hF _ _ _ ⟨rfl, _, rfl, _, _, hV, hK, hQ, hB, _, _, b11, b20, by omega, by omega, by omega, by omega⟩)
  · refine mw_iload hG a263_9 rfl ?_
    refine mw_aload hG a263_10 rfl ?_
    refine mo_vp0 hG hV a263_11 (mo_openCells hen hV b0 hK) rfl (by omega) fun y11 _ => ?_
    refine mw_push hG a263_14 mw_cm1 ?_
    refine mw_any hG a263_15 ?_
    refine mw_any hG a263_16 ?_
    refine mw_ifc_ne hG a263_17 (mw_rI _) (fun z17 => ?_) (fun z17 => ?_)
    · refine mw_push hG a263_29 mw_cm1 ?_
      refine mw_iret hG a263_30 (Or.inl rfl) (hF _ _ _ ⟨rfl, _, rfl, _, _, hV, hK, hQ, hB, _, _, b11, b20, by omega, by omega, by omega, by omega⟩)
    · refine mw_iload hG a263_20 rfl ?_
      refine mw_sp1 hG a263_21 (mo_bitsOf hen (by omega)) rfl (by omega) fun y21 hy21 => ?_
      have hct := mw_ct_le (Int32.ofInt st) 32
      refine mw_push hG a263_24 mw_c8 ?_
      refine mw_icmp_le hG a263_26 (by omega) (by omega) (fun z26 => ?_) (fun z26 => ?_)
      · refine mw_aload hG a263_31 rfl ?_
        refine mo_vv0 hG hV a263_32 (mo_layWeights hen hV b0 hK) rfl (by omega) fun h hq32 => ?_
        obtain ⟨R32, B32, hV, hK, hf32, hbf32⟩ := hq32
        have b0 : B32 0 = bk := (hbf32 0 (by decide)).trans b0
        have b11 : B32 11 = tm := (hbf32 11 (by decide)).trans b11
        have b20 : B32 20 = 0 := (hbf32 20 (by decide)).trans b20
        have hQ := hQ.tr hf32 (by decide)
        have hB := hB.tr hbf32 (by decide)
        refine mw_push hG a263_35 mw_c0 ?_
        refine mw_istore hG a263_36 rfl (Nat.le_of_ble_eq_true rfl) rfl ?_
        refine mw_push hG a263_37 mw_c0 ?_
        refine mw_istore hG a263_38 rfl (Nat.le_of_ble_eq_true rfl) rfl ?_
        exact l39 W.toNat 0 _ _ _ _ _ _ rfl rfl (by omega) (by omega) hV hK hQ hB b0 b11 b20 (by omega) (by omega)
      · refine mw_push hG a263_29 mw_cm1 ?_
        refine mw_iret hG a263_30 (Or.inl rfl) (hF _ _ _ ⟨rfl, _, rfl, _, _, hV, hK, hQ, hB, _, _, b11, b20, by omega, by omega, by omega, by omega⟩)
