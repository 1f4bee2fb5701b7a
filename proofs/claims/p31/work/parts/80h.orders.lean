/-! ORDERS, UNDO AND REDO IN THE WORLD -/
/-- what an exact call leaves -/
def lw_Q (ads : List Nat) (T : Nat) (hR : Nat → Nat → ev_H) (ws : va_W) (v : ev_V) (h' : ev_H) : Prop := (∃ z, v = mw_i z) ∧ (∀ k, k < 83 → ev_hg h' k = ev_hg (lw_x ws) k) ∧ ∃ b2 m2 F2 N2 R2, b2 < 2 ∧ m2 < 4 ∧ lw_E h' F2 N2 R2 ∧ lw_ok ads b2 m2 T (hR b2 m2) F2 R2
theorem lw_E_of {ws : va_W} {h' : ev_H} {F2 : Nat → Int} {N2 : Nat} {R2 : Nat → Int → Int} (h1 : ev_hg h' 83 = (10, lw_o F2 N2)) (h2 : ∀ k, 84 ≤ k → k < 133 → (ev_hg h' k = ev_hg (lw_x ws) k ∧ R2 k = lw_R ws k) ∨ ((lw_tt.getD k (0, 0)).1 ≠ 53 ∧ ev_hg h' k = ((lw_tt.getD k (0, 0)).1, mw_row k R2 (lw_tt.getD k (0, 0)).2))) : lw_E h' F2 N2 R2 := by
  refine ⟨h1, fun k t n k1 k2 ht => ?_⟩
  rcases h2 k k1 k2 with ⟨e1, e2⟩ | ⟨e1, e2⟩
  · rw [e1]
    refine ⟨fun h53 => ?_, fun h53 => lw_x_53 ws (by omega) k2 (by rw [ht, h53])⟩
    rw [lw_x_row ws (by omega) k2 ht h53]
    unfold mw_row
    rw [e2]
  · rw [ht] at e1 e2
    exact ⟨fun _ => e2, fun h53 => absurd h53 e1⟩
theorem lw_br118 : ∀ q ∈ lw_br, q.1 ≠ 118 := by decide
theorem lw_keep {c1 : Nat → ClassId} {ads : List Nat} {ws : va_W} {b m T : Nat} {hB hW : ev_H} (hb : b < 2) (hm : m < 4) (hBB : lw_BB hB) (hW1 : lw_W hB hW b m) (h : lw_RL c1 ads ws b m hW T) {F2 : Nat → Int} {R2 : Nat → Int → Int}
    (hF : ∀ j, F2 j = lw_F ws j ∨ ∃ q ∈ lw_bf, q.1 = j ∧ q.1 ≠ 0 ∧ q.1 < 80 ∧ lw_fx ads T (11, q.2.1, q.2.2) (F2 j))
    (hR : ∀ k, 84 ≤ k → k < 133 → R2 k = lw_R ws k ∨ (∃ q ∈ lw_br, q.1 = k ∧ ∀ i : Nat, i < (lw_tt.getD q.1 (0, 0)).2 → lw_fx ads T (11, q.2.1, q.2.2) (R2 k (i : Int))) ∨ (k = 112 ∧ lw_fx ads T (11, 2147483648, 2147484647) (R2 112 25)) ∨ (k = 118 ∧ ∀ a : Nat, a < 41 → lw_fx ads T (11, 2147483648, 2147484647) (R2 118 ((26 * a + 25 : Nat) : Int))))
    (h5 : ∀ k, k = 88 ∨ k = 97 ∨ k = 101 ∨ k = 102 ∨ k = 107 → R2 k = lw_R ws k) (hau : ev_key (Int32.ofInt (F2 6)) + ev_key (Int32.ofInt (F2 34)) ≤ 4294967336) : lw_ok ads b m T hW F2 R2 := by
  obtain ⟨w1, w2, w3, w4, w5, w6, w7, w8, w9, w10, w11⟩ := hW1
  obtain ⟨g1, g2, g3, g4, g5⟩ := hBB
  obtain ⟨f1, f2⟩ := h.fit hb hm w2 w3 w10
  refine ⟨fun j hj v hv => ?_, fun k t n k1 k2 ht h53 h60 i hi => ?_, fun a ha => ?_, fun r hr hbit => ?_, fun g hg hlt => ?_, hau⟩
  · rcases hF j with e | ⟨q, hq, rfl, q0, q80, q3⟩
    · rw [e]
      exact f1 j hj v hv
    · rw [w7 q.1 q80 q0, g1 q hq] at hv
      cases hv
      exact q3
  · rcases hR k k1 k2 with e | ⟨q, hq, rfl, q3⟩ | ⟨rfl, y⟩ | ⟨rfl, y⟩
    · rw [e]
      exact f2 k t n k1 k2 ht h53 h60 i hi
    · obtain ⟨k0, -, k3, k4, k5, k6, -, -⟩ := g5 q hq
      rw [ht] at q3
      rw [w6 q.1 k0 k2 k3 k4 k5 k6, g2 q hq i (by rw [ht]; exact hi)]
      exact q3 i hi
    · have ht : (50, 26) = (t, n) := ht
      cases ht
      rw [w6 112 (by omega) (by omega) (by omega) (by omega) (by omega) (by omega), g3 i hi]
      by_cases hq : i = 25
      · subst hq
        rw [if_pos rfl]
        exact y
      · rw [if_neg hq]
        exact lw_fx.t
    · rw [w1.2.2.2.2.2.2.1] at h60
      have h60 : 66 < 60 := h60
      omega
  · rcases hR 118 (by omega) (by omega) with e | ⟨q, hq, e, -⟩ | ⟨e, -⟩ | ⟨-, y⟩
    · rw [e]
      exact lw_118 hb hm w1 h a ha
    · exact absurd e (lw_br118 q hq)
    · omega
    · exact y a ha
  · obtain ⟨fr, L, z1, z2, z3, z4, z5⟩ := lw_rwR h hb hm w1 r hr hbit
    refine ⟨fr, L, by rw [h5 101 (by omega)]; exact z1, by rw [h5 102 (by omega)]; exact z2, z3, z4, ?_⟩
    rw [h5 107 (by omega)]
    exact z5
  · rw [h5 97 (by omega)]
    rw [h5 88 (by omega)] at hlt
    exact lw_ltR h hb hm w1 g hg hlt
set_option maxRecDepth 100000 in
theorem lw_moT : ∀ k, k < 133 → (mo_T.getD k (0, 0)).1 ≠ 0 → 84 ≤ k ∧ lw_tt.getD k (0, 0) = mo_T.getD k (0, 0) ∧ (mo_T.getD k (0, 0)).1 ≠ 53 := by decide +kernel
theorem lw_mogetD {k t n : Nat} (h : mo_T[k]? = some (t, n)) : mo_T.getD k (0, 0) = (t, n) := by rw [List.getD_eq_getElem?_getD, h]; rfl
set_option maxRecDepth 100000 in
theorem lw_moS : ∀ k, k < 133 → k ∈ [111, 113, 114, 115, 116, 117, 119, 122, 123] → (mo_T.getD k (0, 0)).1 ≠ 0 := by decide +kernel
theorem lw_mo83 : ∀ k, k < 84 → mo_T[k]? = some (0, 0) := by decide +kernel
theorem lw_x_moV (ws : va_W) : mo_V (lw_x ws) (lw_x ws) (mw_o (lw_F ws) (lw_F ws 23) (lw_F ws 24) (lw_F ws 36) (lw_F ws 37) (lw_F ws 38) (lw_F ws 41) (lw_N ws) (lw_F ws 57) (lw_F ws 58) (lw_F ws 59) (lw_F ws 60)) (lw_R ws) := by
  refine ⟨by rw [lw_x_83, lw_o_eq], fun k t n hT ht => ?_, fun _ _ _ _ => rfl⟩
  have hk := (mo_Tk hT).1
  have := lw_moT k hk (by rw [lw_mogetD hT]; exact ht)
  rw [lw_mogetD hT] at this
  exact lw_x_row ws (by omega) hk this.2.1 this.2.2
theorem lw_moK {c1 : Nat → ClassId} {ads : List Nat} {ws : va_W} {b m T : Nat} {hB hW : ev_H} (hb : b < 2) (hm : m < 4) (hBB : lw_BB hB) (hW1 : lw_W hB hW b m) (h : lw_RL c1 ads ws b m hW T) : mo_K (lw_R ws) (b : Int) (lw_R ws 86 (b : Int)) (lw_R ws 88 (b : Int)) := by
  obtain ⟨n1, n2, n3, n4, n5, n6, n7⟩ := lw_num hb hm hBB hW1 h
  have w1 := hW1.1
  have B86 : (2147483652 : Int) ≤ lw_R ws 86 (b : Int) + 2147483648 ∧ lw_R ws 86 (b : Int) + 2147483648 ≤ 2147483668 := by
    have p := lw_num86 hb hm hW1 h
    rcases (show b = 0 ∨ b = 1 by omega) with rfl | rfl
    · show (2147483652 : Int) ≤ lw_R ws 86 0 + 2147483648 ∧ lw_R ws 86 0 + 2147483648 ≤ 2147483668
      omega
    · show (2147483652 : Int) ≤ lw_R ws 86 1 + 2147483648 ∧ lw_R ws 86 1 + 2147483648 ≤ 2147483668
      omega
  have B88 : (2147483648 : Int) ≤ lw_R ws 88 (b : Int) + 2147483648 ∧ lw_R ws 88 (b : Int) + 2147483648 ≤ 2147483656 := n2 (88, 2147483648, 2147483656) (by decide) (b : Int) (by omega) (by show (b : Int) < 2; omega)
  refine ⟨rfl, rfl, ⟨by omega, by omega, by omega, by omega, by omega, by omega⟩, fun g g1 g2 => ?_, fun hz => ?_, fun i i1 i2 => (by have := lw_R_r ws 96 i; omega), fun i i1 i2 => (by have := n2 (97, 2147483648, 2147483654) (by decide) i i1 i2; have this : (2147483648 : Int) ≤ lw_R ws 97 i + 2147483648 ∧ lw_R ws 97 i + 2147483648 ≤ 2147483654 := this; omega), fun i i1 i2 => (by have := n2 (98, 2147483648, 2147483651) (by decide) i i1 i2; have this : (2147483648 : Int) ≤ lw_R ws 98 i + 2147483648 ∧ lw_R ws 98 i + 2147483648 ≤ 2147483651 := this; omega), fun i i1 i2 => (by have := lw_R_r ws 99 i; omega), n5, fun i i1 i2 => (by have := lw_R_r ws 112 i; omega), fun i i1 i2 => (by have := lw_R_r ws 113 i; omega), fun i i1 i2 => (by have := lw_R_r ws 114 i; omega), fun i i1 i2 => (by have := lw_R_r ws 115 i; omega), fun i i1 i2 => (by have := n2 (116, 2147483648, 2147483655) (by decide) i i1 i2; have this : (2147483648 : Int) ≤ lw_R ws 116 i + 2147483648 ∧ lw_R ws 116 i + 2147483648 ≤ 2147483655 := this; omega), fun i i1 i2 => (by have := n2 (117, 2147483648, 2147483667) (by decide) i i1 i2; have this : (2147483648 : Int) ≤ lw_R ws 117 i + 2147483648 ∧ lw_R ws 117 i + 2147483648 ≤ 2147483667 := this; omega), fun i i1 i2 => (by have := n2 (122, 2147483648, 2147483667) (by decide) i i1 i2; have this : (2147483648 : Int) ≤ lw_R ws 122 i + 2147483648 ∧ lw_R ws 122 i + 2147483648 ≤ 2147483667 := this; omega), fun i i1 i2 => (by have := lw_R_r ws 123 i; omega)⟩
  · have e1 : ((8 * b + g.toNat : Nat) : Int) = 8 * (b : Int) + g := by omega
    have B97 : (2147483648 : Int) ≤ lw_R ws 97 ((8 * b + g.toNat : Nat) : Int) + 2147483648 ∧ lw_R ws 97 ((8 * b + g.toNat : Nat) : Int) + 2147483648 ≤ 2147483654 := n2 (97, 2147483648, 2147483654) (by decide) _ (by omega) (by show ((8 * b + g.toNat : Nat) : Int) < 16; omega)
    have k88 := lw_key (z := lw_R ws 88 (b : Int)) (by omega)
    have k97 := lw_key (z := lw_R ws 97 ((8 * b + g.toNat : Nat) : Int)) (by omega)
    have := lw_ltR h hb hm w1 g.toNat (by omega) (by omega)
    rw [← e1]
    omega
  · have := n4 0 (by omega)
    rw [show ((2 * b + 0 : Nat) : Int) = 2 * (b : Int) by omega, hz] at this
    obtain ⟨fr, L, z1, z2, z3, z4, z5⟩ := lw_rwR h hb hm w1 0 (by omega) (by omega)
    rw [show ((2 * b + 0 : Nat) : Int) = 2 * (b : Int) by omega] at z1 z2
    exact ⟨fr, L, z1, z2, by omega, by omega, z5⟩
set_option maxHeartbeats 4000000 in
set_option maxRecDepth 100000 in
theorem lw_orders (hen : en_ok) {lc : Launch} {c1 : Nat → ClassId} {ads : List Nat} {ws : va_W} {b m T : Nat} {hB : ev_H} {hR : Nat → Nat → ev_H} (hb : b < 2) (hm : m < 4) (hBB : lw_BB hB) (hW : ∀ b m, b < 2 → m < 4 → lw_W hB (hR b m) b m) (h : lw_RL c1 ads ws b m (hR b m) T) {st : Int} (hst : -2147483648 ≤ st ∧ st < 2147483648) : sy_C lc 6 263 [(2, 83, 0), mw_i st] [] (lw_x ws) (fun v _ h' => lw_Q ads T hR ws v h') := by
  have hW1 := hW b m hb hm
  obtain ⟨n1, n2, n3, n4, n5, n6, n7⟩ := lw_num hb hm hBB hW1 h
  have p11 : (2147483648 : Int) ≤ lw_F ws 11 + 2147483648 ∧ lw_F ws 11 + 2147483648 ≤ 2147483668 := n1 (11, 2147483648, 2147483668) (by decide) rfl (by decide) (by decide)
  refine sy_C.mono (mo_orders hen (lc := lc) (E := []) (lw_x_moV ws) n3 (lw_moK hb hm hBB hW1 h) hst rfl (by omega) rfl) (Nat.le_refl _) fun v E' h' hp => ?_
  obtain ⟨-, z, rfl, R2, B2, hV, hK, hfr, hbf, tm, ld, t1, t2, t3, t4, t5, t6⟩ := hp
  obtain ⟨-, -, -, -, -, k96, k97, k98, k99, k104, k112, k113, k114, k115, k116, k117, k122, k123⟩ := hK
  obtain ⟨v1, v2, v3⟩ := hV
  have hR2 : ∀ k, k ∉ [111, 113, 114, 115, 116, 117, 119, 122, 123] → R2 k = lw_R ws k := fun k hk => funext fun i => hfr k i hk
  have hl : ∀ k, k < 133 → k ≠ 83 → (mo_T.getD k (0, 0)).1 = 0 → ev_hg h' k = ev_hg (lw_x ws) k := fun k hk h83 hz => by
    cases hq : mo_T[k]? with
    | none => exact absurd hq (by rw [List.getElem?_eq_none_iff, mo_T_len]; omega)
    | some q =>
      obtain ⟨t', n'⟩ := q
      rw [lw_mogetD hq] at hz
      have hz : t' = 0 := hz
      subst hz
      exact v3 k n' h83 hq
  refine ⟨⟨z, rfl⟩, fun k hk => v3 k 0 (by omega) (lw_mo83 k (by omega)), b, m, B2, lw_N ws, R2, hb, hm, lw_E_of (ws := ws) ?_ fun k k1 k2 => ?_, lw_keep hb hm hBB hW1 h (fun j => ?_) (fun k k1 k2 => ?_) (fun k hk => hR2 k ?_) ?_⟩
  · rw [v1, lw_o_eq, hbf 23 (by decide), hbf 24 (by decide), hbf 36 (by decide), hbf 37 (by decide), hbf 38 (by decide), hbf 41 (by decide), hbf 57 (by decide), hbf 58 (by decide), hbf 59 (by decide), hbf 60 (by decide)]
  · by_cases hz : (mo_T.getD k (0, 0)).1 = 0
    · exact Or.inl ⟨hl k k2 (by omega) hz, hR2 k fun hk => lw_moS k k2 hk hz⟩
    · obtain ⟨-, q2, q3⟩ := lw_moT k k2 hz
      refine Or.inr ⟨by rw [q2]; exact q3, ?_⟩
      cases hq : mo_T[k]? with
      | none => exact absurd hq (by rw [List.getElem?_eq_none_iff, mo_T_len]; omega)
      | some q =>
        obtain ⟨t', n'⟩ := q
        have e := lw_mogetD hq
        rw [q2, e]
        rw [e] at hz
        exact v2 k t' n' hq hz
  · by_cases hj : j ∈ [11, 20, 61, 62, 63, 64, 65]
    · refine Or.inr ?_
      simp only [List.mem_cons, List.not_mem_nil, or_false] at hj
      rcases hj with rfl | rfl | rfl | rfl | rfl | rfl | rfl
      · exact ⟨(11, 2147483648, 2147483668), by decide, rfl, by decide, by decide, lw_fx.i (by show (2147483648 : Int) ≤ B2 11 + 2147483648; omega) (by show B2 11 + 2147483648 ≤ (2147483668 : Int); omega) (by show 2147483668 < 4294967296; omega)⟩
      · exact ⟨(20, 2147483648, 2147483668), by decide, rfl, by decide, by decide, lw_fx.i (by show (2147483648 : Int) ≤ B2 20 + 2147483648; omega) (by show B2 20 + 2147483648 ≤ (2147483668 : Int); omega) (by show 2147483668 < 4294967296; omega)⟩
      · exact ⟨(61, 0, 4294967295), by decide, rfl, by decide, by decide, lw_fx.t⟩
      · exact ⟨(62, 0, 4294967295), by decide, rfl, by decide, by decide, lw_fx.t⟩
      · exact ⟨(63, 0, 4294967295), by decide, rfl, by decide, by decide, lw_fx.t⟩
      · exact ⟨(64, 0, 4294967295), by decide, rfl, by decide, by decide, lw_fx.t⟩
      · exact ⟨(65, 0, 4294967295), by decide, rfl, by decide, by decide, lw_fx.t⟩
    · exact Or.inl (hbf j hj)
  · by_cases hk : k ∈ [111, 113, 114, 115, 116, 117, 119, 122, 123]
    · simp only [List.mem_cons, List.not_mem_nil, or_false] at hk
      rcases hk with rfl | rfl | rfl | rfl | rfl | rfl | rfl | rfl | rfl
      · exact Or.inr (Or.inl ⟨(111, 0, 4294967295), by decide, rfl, fun i hi => lw_fx.t⟩)
      · exact Or.inr (Or.inl ⟨(113, 0, 4294967295), by decide, rfl, fun i hi => lw_fx.t⟩)
      · exact Or.inr (Or.inl ⟨(114, 0, 4294967295), by decide, rfl, fun i hi => lw_fx.t⟩)
      · exact Or.inr (Or.inl ⟨(115, 0, 4294967295), by decide, rfl, fun i hi => lw_fx.t⟩)
      · refine Or.inr (Or.inl ⟨(116, 2147483648, 2147483655), by decide, rfl, fun i hi => ?_⟩)
        have hi : i < 20 := hi
        have q := k116 (i : Int) (by omega) (by omega)
        exact lw_fx.i (by show (2147483648 : Int) ≤ R2 116 (i : Int) + 2147483648; omega) (by show R2 116 (i : Int) + 2147483648 ≤ (2147483655 : Int); omega) (by show 2147483655 < 4294967296; omega)
      · refine Or.inr (Or.inl ⟨(117, 2147483648, 2147483667), by decide, rfl, fun i hi => ?_⟩)
        have hi : i < 20 := hi
        have q := k117 (i : Int) (by omega) (by omega)
        exact lw_fx.i (by show (2147483648 : Int) ≤ R2 117 (i : Int) + 2147483648; omega) (by show R2 117 (i : Int) + 2147483648 ≤ (2147483667 : Int); omega) (by show 2147483667 < 4294967296; omega)
      · exact Or.inr (Or.inl ⟨(119, 0, 4294967295), by decide, rfl, fun i hi => lw_fx.t⟩)
      · refine Or.inr (Or.inl ⟨(122, 2147483648, 2147483667), by decide, rfl, fun i hi => ?_⟩)
        have hi : i < 8 := hi
        have q := k122 (i : Int) (by omega) (by omega)
        exact lw_fx.i (by show (2147483648 : Int) ≤ R2 122 (i : Int) + 2147483648; omega) (by show R2 122 (i : Int) + 2147483648 ≤ (2147483667 : Int); omega) (by show 2147483667 < 4294967296; omega)
      · exact Or.inr (Or.inl ⟨(123, 0, 4294967295), by decide, rfl, fun i hi => lw_fx.t⟩)
    · exact Or.inl (hR2 k hk)
  · rcases hk with rfl | rfl | rfl | rfl | rfl <;> decide
  · rw [hbf 6 (by decide), hbf 34 (by decide)]
    exact lw_auR h hW1.2.2.2.2.2.2.2.2.2.1 hW1.1
/-- undo and redo: the rows of the acts -/
def lw_RU (R : Nat → Int → Int) (g w : Nat → Int32) (k : Nat) : Int → Int := if k = 118 then fun i => (g i.toNat).toInt else if k = 112 then fun i => (w i.toNat).toInt else R k
theorem lw_row_I {k n : Nat} {R : Nat → Int → Int} {g : Nat → Int32} (h : ∀ i : Nat, i < n → R k (i : Int) = (g i).toInt) : mw_row k R n = sy_R n g := by
  rw [mw_row_R]
  unfold sy_R
  refine List.map_congr_left fun i hi => ?_
  show sy_I (Int32.ofInt (R k (i : Int))) = sy_I (g i)
  rw [h i (List.mem_range.mp hi), Int32.ofInt_toInt]
theorem lw_x_K {c1 : Nat → ClassId} {ads : List Nat} {ws : va_W} {b m T : Nat} {hB hW : ev_H} (hb : b < 2) (hm : m < 4) (hBB : lw_BB hB) (hW1 : lw_W hB hW b m) (h : lw_RL c1 ads ws b m hW T) : rf_K (lw_x ws) (lw_x ws) (lw_o (lw_F ws) (lw_N ws)) (fun i => Int32.ofInt (lw_R ws 118 (i : Int))) (fun i => Int32.ofInt (lw_R ws 112 (i : Int))) := by
  obtain ⟨n1, n2, n3, n4, n5, n6, n7⟩ := lw_num hb hm hBB hW1 h
  refine ⟨lw_x_83 ws, rfl, rfl, lw_x_row ws (t := 50) (n := 1066) (by omega) (by omega) rfl (by omega), lw_x_row ws (t := 50) (n := 26) (by omega) (by omega) rfl (by omega), fun a ha => ?_, ?_, fun _ _ _ _ _ => rfl⟩
  · obtain ⟨x, hx, y1, y2⟩ := lw_118 hb hm hW1.1 h a ha
    injection hx with hx
    show 2147483648 ≤ ev_key (Int32.ofInt (lw_R ws 118 ((26 * a + 25 : Nat) : Int))) ∧ ev_key (Int32.ofInt (lw_R ws 118 ((26 * a + 25 : Nat) : Int))) ≤ 2147484647
    rw [hx]
    exact ⟨y1, y2⟩
  · have := lw_key (z := lw_R ws 112 25) (by omega)
    exact ⟨by show 2147483648 ≤ ev_key (Int32.ofInt (lw_R ws 112 25)); omega, by show ev_key (Int32.ofInt (lw_R ws 112 25)) ≤ 2147484647; omega⟩
theorem lw_UQ {c1 : Nat → ClassId} {ads : List Nat} {ws : va_W} {b m T : Nat} {hB : ev_H} {hR : Nat → Nat → ev_H} (hb : b < 2) (hm : m < 4) (hBB : lw_BB hB) (hW1 : lw_W hB (hR b m) b m) (h : lw_RL c1 ads ws b m (hR b m) T) {v : ev_V} {h' : ev_H} (hv : v = sy_I 0 ∨ v = sy_I 1) (hU : rf_U (lw_x ws) (lw_o (lw_F ws) (lw_N ws)) h') : lw_Q ads T hR ws v h' := by
  obtain ⟨lo', g, w, a', u', ⟨k1, k2, k3, k4, k5, k6, k7, k8⟩, ul, u6, u34, uau, uj⟩ := hU
  have el : lo' = lw_o (mu1 (mu1 (lw_F ws) 6 (a' : Int)) 34 (u' : Int)) (lw_N ws) := by
    refine List.ext_getElem? fun j => ?_
    by_cases j6 : j = 6
    · subst j6
      rw [u6, lw_F_to rfl]
      show _ = some (mw_i (a' : Int))
      rw [mw_i, mo_ev]
    by_cases j34 : j = 34
    · subst j34
      rw [u34, lw_F_to rfl]
      show _ = some (mw_i (u' : Int))
      rw [mw_i, mo_ev]
    rw [uj j j6 j34]
    unfold lw_o
    rw [List.getElem?_map, List.getElem?_map, List.getElem?_zipIdx]
    cases lw_tf[j]? with
    | none => rfl
    | some q =>
      show some _ = some _
      refine congrArg some ?_
      show (if q = 0 then mw_i (lw_F ws (0 + j)) else if q = 1 then (4, lw_N ws, 0) else (2, q, 0)) = (if q = 0 then mw_i (mu1 (mu1 (lw_F ws) 6 (a' : Int)) 34 (u' : Int) (0 + j)) else if q = 1 then (4, lw_N ws, 0) else (2, q, 0))
      rw [Nat.zero_add, mu1_n j34, mu1_n j6]
  have a6 : mu1 (mu1 (lw_F ws) 6 (a' : Int)) 34 (u' : Int) 6 = (a' : Int) := rfl
  have a34 : mu1 (mu1 (lw_F ws) 6 (a' : Int)) 34 (u' : Int) 34 = (u' : Int) := rfl
  have ka := lw_key (z := (a' : Int)) (by omega)
  have ku := lw_key (z := (u' : Int)) (by omega)
  have r118 : lw_RU (lw_R ws) g w 118 = fun i => (g i.toNat).toInt := rfl
  have r112 : lw_RU (lw_R ws) g w 112 = fun i => (w i.toNat).toInt := rfl
  have rn : ∀ k, k ≠ 118 → k ≠ 112 → lw_RU (lw_R ws) g w k = lw_R ws k := fun k z1 z2 => by
    unfold lw_RU
    rw [if_neg z1, if_neg z2]
  refine ⟨by rcases hv with rfl | rfl; exact ⟨0, rfl⟩; exact ⟨1, rfl⟩, fun k hk => k8 k (by omega) (by omega) (by omega) (by omega), b, m, mu1 (mu1 (lw_F ws) 6 (a' : Int)) 34 (u' : Int), lw_N ws, lw_RU (lw_R ws) g w, hb, hm, lw_E_of (ws := ws) (by rw [k1, el]) fun k y1 y2 => ?_, lw_keep hb hm hBB hW1 h (fun j => ?_) (fun k y1 y2 => ?_) (fun k hk => rn k (by omega) (by omega)) ?_⟩
  · by_cases z1 : k = 118
    · subst z1
      refine Or.inr ⟨by decide, ?_⟩
      rw [k4]
      exact congrArg (Prod.mk 50) (lw_row_I (n := 1066) fun i _ => by rw [r118]; rfl).symm
    by_cases z2 : k = 112
    · subst z2
      refine Or.inr ⟨by decide, ?_⟩
      rw [k5]
      exact congrArg (Prod.mk 50) (lw_row_I (n := 26) fun i _ => by rw [r112]; rfl).symm
    exact Or.inl ⟨k8 k y2 (by omega) z1 z2, rn k z1 z2⟩
  · by_cases j34 : j = 34
    · subst j34
      exact Or.inr ⟨(34, 2147483648, 2147483688), by decide, rfl, by decide, by decide, by rw [a34]; exact lw_fx.i (by show (2147483648 : Int) ≤ (u' : Int) + 2147483648; omega) (by show (u' : Int) + 2147483648 ≤ (2147483688 : Int); omega) (by show 2147483688 < 4294967296; omega)⟩
    by_cases j6 : j = 6
    · subst j6
      exact Or.inr ⟨(6, 2147483648, 2147483688), by decide, rfl, by decide, by decide, by rw [a6]; exact lw_fx.i (by show (2147483648 : Int) ≤ (a' : Int) + 2147483648; omega) (by show (a' : Int) + 2147483648 ≤ (2147483688 : Int); omega) (by show 2147483688 < 4294967296; omega)⟩
    exact Or.inl (by rw [mu1_n j34, mu1_n j6])
  · by_cases z1 : k = 118
    · subst z1
      refine Or.inr (Or.inr (Or.inr ⟨rfl, fun a ha => ?_⟩))
      rw [r118]
      show lw_fx ads T _ (g (26 * a + 25)).toInt
      unfold lw_fx
      rw [Int32.ofInt_toInt]
      exact ⟨_, rfl, (k6 a ha).1, (k6 a ha).2⟩
    by_cases z2 : k = 112
    · subst z2
      refine Or.inr (Or.inr (Or.inl ⟨rfl, ?_⟩))
      rw [r112]
      show lw_fx ads T _ (w 25).toInt
      unfold lw_fx
      rw [Int32.ofInt_toInt]
      exact ⟨_, rfl, k7.1, k7.2⟩
    exact Or.inl (rn k z1 z2)
  · rw [a6, a34]
    omega
theorem lw_undo (hen : en_ok) {lc : Launch} {c1 : Nat → ClassId} {ads : List Nat} {ws : va_W} {b m T : Nat} {hB : ev_H} {hR : Nat → Nat → ev_H} (hb : b < 2) (hm : m < 4) (hBB : lw_BB hB) (hW : ∀ b m, b < 2 → m < 4 → lw_W hB (hR b m) b m) (h : lw_RL c1 ads ws b m (hR b m) T) {k : Nat} (hk : k = 247 ∨ k = 248) : sy_C lc 2 k [(2, 83, 0)] [] (lw_x ws) (fun v _ h' => lw_Q ads T hR ws v h') := by
  have hW1 := hW b m hb hm
  obtain ⟨n1, n2, n3, n4, n5, n6, n7⟩ := lw_num hb hm hBB hW1 h
  have p6 : (2147483648 : Int) ≤ lw_F ws 6 + 2147483648 ∧ lw_F ws 6 + 2147483648 ≤ 2147483688 := n1 (6, 2147483648, 2147483688) (by decide) rfl (by decide) (by decide)
  have p34 : (2147483648 : Int) ≤ lw_F ws 34 + 2147483648 ∧ lw_F ws 34 + 2147483648 ≤ 2147483688 := n1 (34, 2147483648, 2147483688) (by decide) rfl (by decide) (by decide)
  have hau := lw_auR h hW1.2.2.2.2.2.2.2.2.2.1 hW1.1
  have q6 := lw_key (z := lw_F ws 6) (by omega)
  have q34 := lw_key (z := lw_F ws 34) (by omega)
  have l6 : (lw_o (lw_F ws) (lw_N ws))[6]? = some (sy_I (ev_i (lw_F ws 6).toNat)) := by rw [lw_F_to rfl, mo_evI (by omega)]
  have l34 : (lw_o (lw_F ws) (lw_N ws))[34]? = some (sy_I (ev_i (lw_F ws 34).toNat)) := by rw [lw_F_to rfl, mo_evI (by omega)]
  rcases hk with rfl | rfl
  · exact sy_C.mono (rf_undo hen (lw_x_K hb hm hBB hW1 h) l6 l34 (by omega)) (Nat.le_refl _) fun v E' h' hp => lw_UQ hb hm hBB hW1 h hp.1 hp.2
  · exact sy_C.mono (rf_redo hen (lw_x_K hb hm hBB hW1 h) l6 l34 (by omega)) (Nat.le_refl _) fun v E' h' hp => lw_UQ hb hm hBB hW1 h hp.1 hp.2
