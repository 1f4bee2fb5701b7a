/-! MEADOW IN THE WORLD: the call, and the state behind it -/
theorem lw_mem_l : ∀ k, k < 133 → (mw_T.getD k (0, 0)).1 ≠ 0 → k ∈ [84,85,86,87,88,89,90,91,92,93,94,95,96,97,98,99,100,101,102,103,104,107,108,109,110,112,132] := by decide +kernel
theorem lw_mem (k : Nat) (a : k < 133) (b : (mw_T.getD k (0, 0)).1 ≠ 0) : k = 84 ∨ k = 85 ∨ k = 86 ∨ k = 87 ∨ k = 88 ∨ k = 89 ∨ k = 90 ∨ k = 91 ∨ k = 92 ∨ k = 93 ∨ k = 94 ∨ k = 95 ∨ k = 96 ∨ k = 97 ∨ k = 98 ∨ k = 99 ∨ k = 100 ∨ k = 101 ∨ k = 102 ∨ k = 103 ∨ k = 104 ∨ k = 107 ∨ k = 108 ∨ k = 109 ∨ k = 110 ∨ k = 112 ∨ k = 132 := by
  have := lw_mem_l k a b
  simpa only [List.mem_cons, List.not_mem_nil, or_false] using this
theorem lw_mT0 : ∀ k, k < 83 → mw_T[k]? = some (0, 0) := by decide +kernel
theorem lw_J0 {ads : List Nat} {c1 : Nat → ClassId} {ws : va_W} {b m T : Nat} {hB hW : ev_H} (hb : b < 2) (hm : m < 4) (hBB : lw_BB hB) (hW1 : lw_W hB hW b m) (h : lw_RL c1 ads ws b m hW T) : mw_J (lw_R ws) := by
  obtain ⟨n1, n2, n3, n4, n5, n6, n7⟩ := lw_num hb hm hBB hW1 h
  exact ⟨fun i i1 i2 => (by have := n2 (84, 2147483520, 2147483775) (by decide) i i1 i2; have this : (2147483520 : Int) ≤ lw_R ws 84 i + 2147483648 ∧ lw_R ws 84 i + 2147483648 ≤ 2147483775 := this; omega),
    fun i i1 i2 => (by have := n2 (85, 2147483520, 2147483775) (by decide) i i1 i2; have this : (2147483520 : Int) ≤ lw_R ws 85 i + 2147483648 ∧ lw_R ws 85 i + 2147483648 ≤ 2147483775 := this; omega),
    fun i i1 i2 => (by have := lw_num86 hb hm hW1 h; rcases (show i = 0 ∨ i = 1 by omega) with rfl | rfl <;> omega),
    fun i i1 i2 => (by have := n2 (87, 2147483648, 2147483652) (by decide) i i1 i2; have this : (2147483648 : Int) ≤ lw_R ws 87 i + 2147483648 ∧ lw_R ws 87 i + 2147483648 ≤ 2147483652 := this; omega),
    fun i i1 i2 => (by have := n2 (88, 2147483648, 2147483656) (by decide) i i1 i2; have this : (2147483648 : Int) ≤ lw_R ws 88 i + 2147483648 ∧ lw_R ws 88 i + 2147483648 ≤ 2147483656 := this; omega),
    fun i i1 i2 => (by have := n2 (89, 0, 4294967295) (by decide) i i1 i2; have this : (0 : Int) ≤ lw_R ws 89 i + 2147483648 ∧ lw_R ws 89 i + 2147483648 ≤ 4294967295 := this; omega),
    fun i i1 i2 => (by have := n2 (90, 0, 4294967295) (by decide) i i1 i2; have this : (0 : Int) ≤ lw_R ws 90 i + 2147483648 ∧ lw_R ws 90 i + 2147483648 ≤ 4294967295 := this; omega),
    fun i i1 i2 => (by have := n2 (92, 2147483648, 2147483708) (by decide) i i1 i2; have this : (2147483648 : Int) ≤ lw_R ws 92 i + 2147483648 ∧ lw_R ws 92 i + 2147483648 ≤ 2147483708 := this; omega),
    fun i i1 i2 => (by have := n2 (93, 2147483648, 2147484647) (by decide) i i1 i2; have this : (2147483648 : Int) ≤ lw_R ws 93 i + 2147483648 ∧ lw_R ws 93 i + 2147483648 ≤ 2147484647 := this; omega),
    fun i i1 i2 => (by have := n2 (94, 0, 4294967295) (by decide) i i1 i2; have this : (0 : Int) ≤ lw_R ws 94 i + 2147483648 ∧ lw_R ws 94 i + 2147483648 ≤ 4294967295 := this; omega),
    fun i i1 i2 => (by have := n2 (97, 2147483648, 2147483654) (by decide) i i1 i2; have this : (2147483648 : Int) ≤ lw_R ws 97 i + 2147483648 ∧ lw_R ws 97 i + 2147483648 ≤ 2147483654 := this; omega),
    fun i i1 i2 => (by have := n2 (98, 2147483648, 2147483651) (by decide) i i1 i2; have this : (2147483648 : Int) ≤ lw_R ws 98 i + 2147483648 ∧ lw_R ws 98 i + 2147483648 ≤ 2147483651 := this; omega),
    fun i i1 i2 => (by have := n2 (103, 2147483648, 2147483649) (by decide) i i1 i2; have this : (2147483648 : Int) ≤ lw_R ws 103 i + 2147483648 ∧ lw_R ws 103 i + 2147483648 ≤ 2147483649 := this; omega),
    n5,
    fun i i1 i2 => (by have := n2 (132, 2147483648, 2147483649) (by decide) i i1 i2; have this : (2147483648 : Int) ≤ lw_R ws 132 i + 2147483648 ∧ lw_R ws 132 i + 2147483648 ≤ 2147483649 := this; omega),
    n7.1,
    n7.2⟩
theorem lw_118 {ads : List Nat} {c1 : Nat → ClassId} {ws : va_W} {b m T : Nat} {hW : ev_H} (hb : b < 2) (hm : m < 4) (hw : lw_okW hW b m) (h : lw_RL c1 ads ws b m hW T) : ∀ a : Nat, a < 41 → lw_fx ads T (11, 2147483648, 2147484647) (lw_R ws 118 ((26 * a + 25 : Nat) : Int)) := fun a ha => by
  obtain ⟨e, he, hr⟩ := h.1 118 (by omega) (by omega)
  rw [hw.2.2.2.2.2.2.1] at hr
  have q3 : lw_op c1 ws b m 66 e := by
    rcases hr with ⟨x, -⟩ | ⟨-, x, -⟩ | ⟨x, -⟩ | ⟨-, x, -⟩ | ⟨-, x⟩ | ⟨x, -⟩ | ⟨x, -⟩ | ⟨x, -⟩ <;> first | exact x (by decide) | exact absurd x (by decide)
  rcases q3 with ⟨-, g, rfl, hg⟩ | ⟨z, -⟩ | ⟨z, -⟩ | ⟨z, -⟩
  · have := lw_R_c he (26 * a + 25)
    unfold lw_fx
    rw [this.1]
    exact ⟨_, rfl, (hg a ha).1, (hg a ha).2⟩
  · omega
  · omega
  · omega
theorem lw_opq {ads : List Nat} {c1 : Nat → ClassId} {ws : va_W} {b m T : Nat} {hW : ev_H} (hb : b < 2) (hm : m < 4) (h : lw_RL c1 ads ws b m hW T) {k tg : Nat} (k1 : 83 ≤ k) (k2 : k < 133) (ht : ev_hg hW k = (tg, [])) (t1 : 60 ≤ tg) (t2 : tg < 100) : ∃ g : Nat → Int32, lw_c ws k (.inl (c1 0, rf_n tg, .inl g)) := by
  obtain ⟨e, he, hr⟩ := h.1 k k1 k2
  rw [ht] at hr
  have q3 : lw_op c1 ws b m tg e := by
    rcases hr with ⟨x, -⟩ | ⟨-, x, -⟩ | ⟨x, -⟩ | ⟨-, x, -⟩ | ⟨-, x⟩ | ⟨x, -⟩ | ⟨x, -⟩ | ⟨x, -⟩
    · have x : tg < 50 := x
      omega
    · have x : tg ≤ 52 := x
      omega
    · have x : tg = 53 := x
      omega
    · have x : tg ≤ 56 := x
      omega
    · exact x (by show tg < 999; omega)
    · have x : tg = 57 := x
      omega
    · have x : tg = 58 := x
      omega
    · have x : tg = 59 := x
      omega
  obtain ⟨g, rfl⟩ := lw_op_sh hb hm q3
  exact ⟨g, he⟩
theorem lw_rwR {ads : List Nat} {c1 : Nat → ClassId} {ws : va_W} {b m T : Nat} {hW : ev_H} (h : lw_RL c1 ads ws b m hW T) (hb : b < 2) (hm : m < 4) (hw : lw_okW hW b m) : ∀ r : Nat, r < 2 → m / 2 ^ r % 2 = 1 → mw_ru (lw_R ws) ((2 * b + r : Nat) : Int) ((560 * b : Nat) : Int) ((560 * b + 560 : Nat) : Int) := fun r hr hbit => by
  obtain ⟨-, -, -, t107, t101, t102, -, -, -⟩ := hw
  obtain ⟨C, hC⟩ := lw_opq hb hm h (by omega) (by omega) t107 (by omega) (by omega)
  obtain ⟨F, hF⟩ := lw_opq hb hm h (by omega) (by omega) t101 (by omega) (by omega)
  obtain ⟨T2, hT⟩ := lw_opq hb hm h (by omega) (by omega) t102 (by omega) (by omega)
  rw [rf_n_c b hb m hm] at hC
  rw [(rf_n_f b hb).1] at hF
  rw [(rf_n_f b hb).2] at hT
  obtain ⟨fr, L, y1, y2, y3, y4, y5⟩ := h.2.1 C F T2 hC hF hT r hr hbit
  refine ⟨fr, L, ?_, ?_, by omega, by omega, rf_W_cg (fun i hi => ?_) y5⟩
  · rw [(lw_R_c hF (2 * b + r)).2, y1, ← mo_ev]
    exact mw_nn (by omega)
  · rw [(lw_R_c hT (2 * b + r)).2, y2, ← mo_ev]
    exact mw_nn (by omega)
  · exact (lw_R_c hC (fr + i)).1
theorem lw_at50 {ads : List Nat} {c1 : Nat → ClassId} {ws : va_W} {b m T k n : Nat} {hW : ev_H} {l : List ev_V} (h : lw_RL c1 ads ws b m hW T) (k1 : 83 ≤ k) (k2 : k < 133) (ht : ev_hg hW k = (50, l)) (hl : l.length = n) : ∃ f : Nat → Int32, lw_c ws k (.inl (c1 0, n, .inl f)) := by
  obtain ⟨e, he, hr⟩ := h.1 k k1 k2
  rw [ht] at hr
  obtain ⟨f, hf, -, -⟩ := he.at (c1 := c1) rfl hr hl
  exact ⟨f, hf⟩
theorem lw_ltR {ads : List Nat} {c1 : Nat → ClassId} {ws : va_W} {b m T : Nat} {hW : ev_H} (h : lw_RL c1 ads ws b m hW T) (hb : b < 2) (hm : m < 4) (hw : lw_okW hW b m) : ∀ g : Nat, g < 8 → 2147483648 + g < ev_key (Int32.ofInt (lw_R ws 88 (b : Int))) → 2147483649 ≤ ev_key (Int32.ofInt (lw_R ws 97 ((8 * b + g : Nat) : Int))) := fun g hg hlt => by
  obtain ⟨f, hf⟩ := lw_at50 h (by omega) (by omega) hw.2.1 (n := 2) rfl
  obtain ⟨f9, hf9⟩ := lw_at50 h (by omega) (by omega) hw.2.2.1 (n := 16) rfl
  rw [(lw_R_c hf b).1] at hlt
  rw [(lw_R_c hf9 (8 * b + g)).1]
  exact h.2.2.1 f f9 hf hf9 g hg hlt
theorem lw_auR {ads : List Nat} {c1 : Nat → ClassId} {ws : va_W} {b m T : Nat} {hW : ev_H} (h : lw_RL c1 ads ws b m hW T) (h83 : (ev_hg hW 83).1 = 10) (hw : lw_okW hW b m) : ev_key (Int32.ofInt (lw_F ws 6)) + ev_key (Int32.ofInt (lw_F ws 34)) ≤ 4294967336 := by
  obtain ⟨⟨l, o1, o6, o34⟩, -⟩ := hw
  obtain ⟨e, he, hr⟩ := h.1 83 (by omega) (by omega)
  rw [o1] at hr
  obtain ⟨vs, rfl, v2, v3⟩ := hr.obj (show 10 < 50 by decide)
  obtain ⟨w6, w61, x, rfl, -⟩ := v3 6 _ o6
  obtain ⟨w34, w341, y, rfl, -⟩ := v3 34 _ o34
  rw [lw_F_c he w61, lw_F_c he w341, Int32.ofInt_toInt, Int32.ofInt_toInt]
  exact h.2.2.2 vs he x y w61 w341
set_option maxHeartbeats 8000000 in
set_option maxRecDepth 100000 in
theorem lw_meadow (hen : en_ok) {lc : Launch} {c1 : Nat → ClassId} {ads : List Nat} {ws : va_W} {b m T : Nat} {hB : ev_H} {hR : Nat → Nat → ev_H} (hb : b < 2) (hm : m < 4) (hBB : lw_BB hB) (hW : ∀ b m, b < 2 → m < 4 → lw_W hB (hR b m) b m) (h : lw_RL c1 ads ws b m (hR b m) T) : sy_C lc 8 185 [(2, 83, 0)] [] (lw_x ws) (fun v E' h' => (∃ z, v = mw_i z) ∧ E' = [] ∧ (∀ k, k < 83 → ev_hg h' k = ev_hg (lw_x ws) k) ∧ ∃ b2 m2 F2 N2 R2, b2 < 2 ∧ m2 < 4 ∧ lw_E h' F2 N2 R2 ∧ lw_ok ads b2 m2 T (hR b2 m2) F2 R2) := by
  have hJ := lw_J0 hb hm hBB (hW b m hb hm) h
  obtain ⟨n1, n2, n3, n4, n5, n6, n7⟩ := lw_num hb hm hBB (hW b m hb hm) h
  have p6 : (2147483648 : Int) ≤ lw_F ws 6 + 2147483648 ∧ lw_F ws 6 + 2147483648 ≤ 2147483688 := n1 (6, 2147483648, 2147483688) (by decide) rfl (by decide) (by decide)
  have p14 : (2147483648 : Int) ≤ lw_F ws 14 + 2147483648 ∧ lw_F ws 14 + 2147483648 ≤ 2147485248 := n1 (14, 2147483648, 2147485248) (by decide) rfl (by decide) (by decide)
  have p20 : (2147483648 : Int) ≤ lw_F ws 20 + 2147483648 ∧ lw_F ws 20 + 2147483648 ≤ 2147483668 := n1 (20, 2147483648, 2147483668) (by decide) rfl (by decide) (by decide)
  have p27 : (2147483648 : Int) ≤ lw_F ws 27 + 2147483648 ∧ lw_F ws 27 + 2147483648 ≤ 2147483678 := n1 (27, 2147483648, 2147483678) (by decide) rfl (by decide) (by decide)
  have p34 : (2147483648 : Int) ≤ lw_F ws 34 + 2147483648 ∧ lw_F ws 34 + 2147483648 ≤ 2147483688 := n1 (34, 2147483648, 2147483688) (by decide) rfl (by decide) (by decide)
  have p41 : (2147483648 : Int) ≤ lw_F ws 41 + 2147483648 ∧ lw_F ws 41 + 2147483648 ≤ 2147493647 := n1 (41, 2147483648, 2147493647) (by decide) rfl (by decide) (by decide)
  have p58 : (2147482048 : Int) ≤ lw_F ws 58 + 2147483648 ∧ lw_F ws 58 + 2147483648 ≤ 2147483655 := n1 (58, 2147482048, 2147483655) (by decide) rfl (by decide) (by decide)
  have p59 : (2147483648 : Int) ≤ lw_F ws 59 + 2147483648 ∧ lw_F ws 59 + 2147483648 ≤ 2147483738 := n1 (59, 2147483648, 2147483738) (by decide) rfl (by decide) (by decide)
  have p60 : (2147483648 : Int) ≤ lw_F ws 60 + 2147483648 ∧ lw_F ws 60 + 2147483648 ≤ 2147483678 := n1 (60, 2147483648, 2147483678) (by decide) rfl (by decide) (by decide)
  refine sy_C.mono (mw_meadow hen (lc := lc) (E := []) (lw_x_V ws) (by omega) (by omega) hJ (by omega) (lw_N_r ws) (by omega)) (Nat.le_refl _) fun v E' h' hp => ?_
  obtain ⟨rfl, z, rfl, B2, R2, fk2, a2, fp2, en2, tok2, num2, nm2, cs2, wi2, pi2, ui2, hV, hok, hJ2, c1', c2', hrg, m13, m13', m14, m21, m21', mj, hM⟩ := hp
  obtain ⟨s1, s2, s3, s4, s5, s6, s7, s8, s9, s10, s11, s12, s13⟩ := hok
  refine ⟨⟨z, rfl⟩, rfl, fun k hk => hV.2.2.2 k 0 (by omega) (by omega) (by omega) (lw_mT0 k hk), ?_⟩
  obtain ⟨w1, w2, w3, w4, w5, w6, w7, w8, w9, w10, w11⟩ := hW b m hb hm
  obtain ⟨f1, f2⟩ := h.fit hb hm w2 w3 w10
  have fin : ∀ b2 m2 : Nat, b2 < 2 → m2 < 4 → B2 0 = (b2 : Int) → 4 * (b2 : Int) ≤ R2 86 1 → 0 ≤ B2 6 ∧ B2 6 ≤ 40 → 0 ≤ B2 34 ∧ B2 34 ≤ 40 → 0 ≤ B2 20 ∧ B2 20 ≤ 20 → 0 ≤ B2 27 ∧ B2 27 ≤ 30 → (∀ j : Nat, j < 2 → R2 104 ((2 * b2 + j : Nat) : Int) = ((m2 / 2 ^ j % 2 : Nat) : Int)) → (∀ r : Nat, r < 2 → m2 / 2 ^ r % 2 = 1 → mw_ru R2 ((2 * b2 + r : Nat) : Int) ((560 * b2 : Nat) : Int) ((560 * b2 + 560 : Nat) : Int)) → (∀ g : Nat, g < 8 → 2147483648 + g < ev_key (Int32.ofInt (R2 88 (b2 : Int))) → 2147483649 ≤ ev_key (Int32.ofInt (R2 97 ((8 * b2 + g : Nat) : Int)))) → ev_key (Int32.ofInt (B2 6)) + ev_key (Int32.ofInt (B2 34)) ≤ 4294967336 → ∃ b2 m2 F2 N2 R2, b2 < 2 ∧ m2 < 4 ∧ lw_E h' F2 N2 R2 ∧ lw_ok ads b2 m2 T (hR b2 m2) F2 R2 := by
    intro b2 m2 hb2 hm2 x0 x86 x6 x34 x20 x27 x104 xr xl xa
    refine ⟨b2, m2, _, _, _, hb2, hm2, lw_V_E hV, fun j hj v hv => ?_, fun k t n k1 k2 ht h53 h60 i hi => ?_, fun a ha => ?_, xr, xl, xa⟩
    · obtain ⟨-, -, y3, -, -, y6, y7, y8, -, -, -⟩ := hW b2 m2 hb2 hm2
      obtain ⟨g1, -, -, -, -⟩ := hBB
      have hj80 : j < 80 := by have := (List.getElem?_eq_some_iff.mp hj).1; rw [lw_tf_len] at this; exact this
      by_cases j0 : j = 0
      · subst j0
        rw [y8] at hv
        cases hv
        exact lw_fx.x x0
      by_cases j6 : j = 6
      · subst j6
        rw [y7 6 (by omega) (by omega), g1 (6, 2147483648, 2147483688) (by decide)] at hv
        cases hv
        show lw_fx ads T (11, 2147483648, 2147483688) (B2 6)
        exact lw_fx.i (by omega) (by omega) (by omega)
      by_cases j13 : j = 13
      · subst j13
        rw [y7 13 (by omega) (by omega), g1 (13, 2147483648, 2147483649) (by decide)] at hv
        cases hv
        show lw_fx ads T (11, 2147483648, 2147483649) (B2 13)
        exact lw_fx.i (by omega) (by omega) (by omega)
      by_cases j14 : j = 14
      · subst j14
        rw [y7 14 (by omega) (by omega), g1 (14, 2147483648, 2147485248) (by decide)] at hv
        cases hv
        show lw_fx ads T (11, 2147483648, 2147485248) (B2 14)
        exact lw_fx.i (by omega) (by omega) (by omega)
      by_cases j20 : j = 20
      · subst j20
        rw [y7 20 (by omega) (by omega), g1 (20, 2147483648, 2147483668) (by decide)] at hv
        cases hv
        show lw_fx ads T (11, 2147483648, 2147483668) (B2 20)
        exact lw_fx.i (by omega) (by omega) (by omega)
      by_cases j21 : j = 21
      · subst j21
        rw [y7 21 (by omega) (by omega), g1 (21, 2147483648, 2147485248) (by decide)] at hv
        cases hv
        show lw_fx ads T (11, 2147483648, 2147485248) (B2 21)
        exact lw_fx.i (by omega) (by omega) (by omega)
      by_cases j23 : j = 23
      · subst j23
        rw [y7 23 (by omega) (by omega), g1 (23, 0, 4294967295) (by decide)] at hv
        cases hv
        show lw_fx ads T (11, 0, 4294967295) (fk2)
        exact lw_fx.t
      by_cases j24 : j = 24
      · subst j24
        rw [y7 24 (by omega) (by omega), g1 (24, 2147483648, 2147485248) (by decide)] at hv
        cases hv
        show lw_fx ads T (11, 2147483648, 2147485248) (a2)
        exact lw_fx.i (by omega) (by omega) (by omega)
      by_cases j27 : j = 27
      · subst j27
        rw [y7 27 (by omega) (by omega), g1 (27, 2147483648, 2147483678) (by decide)] at hv
        cases hv
        show lw_fx ads T (11, 2147483648, 2147483678) (B2 27)
        exact lw_fx.i (by omega) (by omega) (by omega)
      by_cases j34 : j = 34
      · subst j34
        rw [y7 34 (by omega) (by omega), g1 (34, 2147483648, 2147483688) (by decide)] at hv
        cases hv
        show lw_fx ads T (11, 2147483648, 2147483688) (B2 34)
        exact lw_fx.i (by omega) (by omega) (by omega)
      by_cases j36 : j = 36
      · subst j36
        rw [y7 36 (by omega) (by omega), g1 (36, 0, 4294967295) (by decide)] at hv
        cases hv
        show lw_fx ads T (11, 0, 4294967295) (fp2)
        exact lw_fx.t
      by_cases j37 : j = 37
      · subst j37
        rw [y7 37 (by omega) (by omega), g1 (37, 2147483648, 2147485249) (by decide)] at hv
        cases hv
        show lw_fx ads T (11, 2147483648, 2147485249) (en2)
        exact lw_fx.i (by omega) (by omega) (by omega)
      by_cases j38 : j = 38
      · subst j38
        rw [y7 38 (by omega) (by omega), g1 (38, 2147483648, 2147483653) (by decide)] at hv
        cases hv
        show lw_fx ads T (11, 2147483648, 2147483653) (tok2)
        exact lw_fx.i (by omega) (by omega) (by omega)
      by_cases j41 : j = 41
      · subst j41
        rw [y7 41 (by omega) (by omega), g1 (41, 2147483648, 2147493647) (by decide)] at hv
        cases hv
        show lw_fx ads T (11, 2147483648, 2147493647) (num2)
        exact lw_fx.i (by omega) (by omega) (by omega)
      by_cases j57 : j = 57
      · subst j57
        rw [y7 57 (by omega) (by omega), g1 (57, 2147483648, 2147484768) (by decide)] at hv
        cases hv
        show lw_fx ads T (11, 2147483648, 2147484768) (cs2)
        exact lw_fx.i (by omega) (by omega) (by omega)
      by_cases j58 : j = 58
      · subst j58
        rw [y7 58 (by omega) (by omega), g1 (58, 2147482048, 2147483655) (by decide)] at hv
        cases hv
        show lw_fx ads T (11, 2147482048, 2147483655) (wi2)
        exact lw_fx.i (by omega) (by omega) (by omega)
      by_cases j59 : j = 59
      · subst j59
        rw [y7 59 (by omega) (by omega), g1 (59, 2147483648, 2147483738) (by decide)] at hv
        cases hv
        show lw_fx ads T (11, 2147483648, 2147483738) (pi2)
        exact lw_fx.i (by omega) (by omega) (by omega)
      by_cases j60 : j = 60
      · subst j60
        rw [y7 60 (by omega) (by omega), g1 (60, 2147483648, 2147483678) (by decide)] at hv
        cases hv
        show lw_fx ads T (11, 2147483648, 2147483678) (ui2)
        exact lw_fx.i (by omega) (by omega) (by omega)
      rw [mu1_n j60, mu1_n j59, mu1_n j58, mu1_n j57, mu1_n j41, mu1_n j38, mu1_n j37, mu1_n j36, mu1_n j24, mu1_n j23, mj j j0 j6 j13 j14 j20 j21 j27 j34]
      rw [y7 j hj80 j0, ← w7 j hj80 j0] at hv
      exact f1 j hj v hv
    · obtain ⟨y1, -, -, -, -, y6, -, -, y9, -, -, y86⟩ := hW b2 m2 hb2 hm2
      obtain ⟨-, g2, g3, -, -⟩ := hBB
      show lw_fx ads T (lw_el (ev_hg (hR b2 m2) k) i) ((if (mw_T.getD k (0, 0)).1 ≠ 0 then R2 k else lw_R ws k) (i : Int))
      by_cases hz : (mw_T.getD k (0, 0)).1 ≠ 0
      · rw [if_pos hz]
        rcases lw_mem k k2 hz with rfl | rfl | rfl | rfl | rfl | rfl | rfl | rfl | rfl | rfl | rfl | rfl | rfl | rfl | rfl | rfl | rfl | rfl | rfl | rfl | rfl | rfl | rfl | rfl | rfl | rfl | rfl
        · have ht : (51, 1620) = (t, n) := ht
          cases ht
          rw [y6 84 (by omega) (by omega) (by omega) (by omega) (by omega) (by omega), g2 (84, 2147483520, 2147483775) (by decide) i hi]
          have q := hJ2.g84 (i := (i : Int)) (by omega)
          exact lw_fx.i (by show (2147483520 : Int) ≤ R2 84 (i : Int) + 2147483648; omega) (by show R2 84 (i : Int) + 2147483648 ≤ (2147483775 : Int); omega) (by show 2147483775 < 4294967296; omega)
        · have ht : (51, 1600) = (t, n) := ht
          cases ht
          rw [y6 85 (by omega) (by omega) (by omega) (by omega) (by omega) (by omega), g2 (85, 2147483520, 2147483775) (by decide) i hi]
          have q := hJ2.g85 (i := (i : Int)) (by omega)
          exact lw_fx.i (by show (2147483520 : Int) ≤ R2 85 (i : Int) + 2147483648; omega) (by show R2 85 (i : Int) + 2147483648 ≤ (2147483775 : Int); omega) (by show 2147483775 < 4294967296; omega)
        · have ht : (50, 2) = (t, n) := ht
          cases ht
          rw [y86]
          have q0 := hJ2.g86 (i := 0) (by omega)
          have q1 := hJ2.g86 (i := 1) (by omega)
          rcases (show i = 0 ∨ i = 1 by omega) with rfl | rfl
          · show lw_fx ads T (11, 2147483652, 2147483668) (R2 86 0)
            exact lw_fx.i (by omega) (by omega) (by omega)
          · show lw_fx ads T (11, 2147483648 + 4 * b2, 2147483668) (R2 86 1)
            exact lw_fx.i (by omega) (by omega) (by omega)
        · have ht : (50, 2) = (t, n) := ht
          cases ht
          rw [y6 87 (by omega) (by omega) (by omega) (by omega) (by omega) (by omega), g2 (87, 2147483648, 2147483652) (by decide) i hi]
          have q := hJ2.g87 (i := (i : Int)) (by omega)
          exact lw_fx.i (by show (2147483648 : Int) ≤ R2 87 (i : Int) + 2147483648; omega) (by show R2 87 (i : Int) + 2147483648 ≤ (2147483652 : Int); omega) (by show 2147483652 < 4294967296; omega)
        · have ht : (50, 2) = (t, n) := ht
          cases ht
          rw [y6 88 (by omega) (by omega) (by omega) (by omega) (by omega) (by omega), g2 (88, 2147483648, 2147483656) (by decide) i hi]
          have q := hJ2.g88 (i := (i : Int)) (by omega)
          exact lw_fx.i (by show (2147483648 : Int) ≤ R2 88 (i : Int) + 2147483648; omega) (by show R2 88 (i : Int) + 2147483648 ≤ (2147483656 : Int); omega) (by show 2147483656 < 4294967296; omega)
        · have ht : (50, 2) = (t, n) := ht
          cases ht
          rw [y6 89 (by omega) (by omega) (by omega) (by omega) (by omega) (by omega), g2 (89, 0, 4294967295) (by decide) i hi]
          exact lw_fx.t
        · have ht : (50, 2) = (t, n) := ht
          cases ht
          rw [y6 90 (by omega) (by omega) (by omega) (by omega) (by omega) (by omega), g2 (90, 0, 4294967295) (by decide) i hi]
          exact lw_fx.t
        · have ht : (50, 2) = (t, n) := ht
          cases ht
          rw [y6 91 (by omega) (by omega) (by omega) (by omega) (by omega) (by omega), g2 (91, 0, 4294967295) (by decide) i hi]
          exact lw_fx.t
        · have ht : (50, 2) = (t, n) := ht
          cases ht
          rw [y6 92 (by omega) (by omega) (by omega) (by omega) (by omega) (by omega), g2 (92, 2147483648, 2147483708) (by decide) i hi]
          have q := hJ2.g92 (i := (i : Int)) (by omega)
          exact lw_fx.i (by show (2147483648 : Int) ≤ R2 92 (i : Int) + 2147483648; omega) (by show R2 92 (i : Int) + 2147483648 ≤ (2147483708 : Int); omega) (by show 2147483708 < 4294967296; omega)
        · have ht : (50, 2) = (t, n) := ht
          cases ht
          rw [y6 93 (by omega) (by omega) (by omega) (by omega) (by omega) (by omega), g2 (93, 2147483648, 2147484647) (by decide) i hi]
          have q := hJ2.g93 (i := (i : Int)) (by omega)
          exact lw_fx.i (by show (2147483648 : Int) ≤ R2 93 (i : Int) + 2147483648; omega) (by show R2 93 (i : Int) + 2147483648 ≤ (2147484647 : Int); omega) (by show 2147484647 < 4294967296; omega)
        · have ht : (50, 2) = (t, n) := ht
          cases ht
          rw [y6 94 (by omega) (by omega) (by omega) (by omega) (by omega) (by omega), g2 (94, 0, 4294967295) (by decide) i hi]
          exact lw_fx.t
        · have ht : (50, 8) = (t, n) := ht
          cases ht
          rw [y6 95 (by omega) (by omega) (by omega) (by omega) (by omega) (by omega), g2 (95, 0, 4294967295) (by decide) i hi]
          exact lw_fx.t
        · have ht : (50, 16) = (t, n) := ht
          cases ht
          rw [y6 96 (by omega) (by omega) (by omega) (by omega) (by omega) (by omega), g2 (96, 0, 4294967295) (by decide) i hi]
          exact lw_fx.t
        · have ht : (50, 16) = (t, n) := ht
          cases ht
          rw [y6 97 (by omega) (by omega) (by omega) (by omega) (by omega) (by omega), g2 (97, 2147483648, 2147483654) (by decide) i hi]
          have q := hJ2.g97 (i := (i : Int)) (by omega)
          exact lw_fx.i (by show (2147483648 : Int) ≤ R2 97 (i : Int) + 2147483648; omega) (by show R2 97 (i : Int) + 2147483648 ≤ (2147483654 : Int); omega) (by show 2147483654 < 4294967296; omega)
        · have ht : (50, 16) = (t, n) := ht
          cases ht
          rw [y6 98 (by omega) (by omega) (by omega) (by omega) (by omega) (by omega), g2 (98, 2147483648, 2147483651) (by decide) i hi]
          have q := hJ2.g98 (i := (i : Int)) (by omega)
          exact lw_fx.i (by show (2147483648 : Int) ≤ R2 98 (i : Int) + 2147483648; omega) (by show R2 98 (i : Int) + 2147483648 ≤ (2147483651 : Int); omega) (by show 2147483651 < 4294967296; omega)
        · have ht : (50, 16) = (t, n) := ht
          cases ht
          rw [y6 99 (by omega) (by omega) (by omega) (by omega) (by omega) (by omega), g2 (99, 0, 4294967295) (by decide) i hi]
          exact lw_fx.t
        · have ht : (50, 16) = (t, n) := ht
          cases ht
          rw [y6 100 (by omega) (by omega) (by omega) (by omega) (by omega) (by omega), g2 (100, 0, 4294967295) (by decide) i hi]
          exact lw_fx.t
        · have ht : (50, 4) = (t, n) := ht
          cases ht
          rw [y1.2.2.2.2.1] at h60
          have h60 : 64 + 10 * b2 < 60 := h60
          omega
        · have ht : (50, 4) = (t, n) := ht
          cases ht
          rw [y1.2.2.2.2.2.1] at h60
          have h60 : 65 + 10 * b2 < 60 := h60
          omega
        · have ht : (52, 2) = (t, n) := ht
          cases ht
          rw [y6 103 (by omega) (by omega) (by omega) (by omega) (by omega) (by omega), g2 (103, 2147483648, 2147483649) (by decide) i hi]
          have q := hJ2.g103 (i := (i : Int)) (by omega)
          exact lw_fx.i (by show (2147483648 : Int) ≤ R2 103 (i : Int) + 2147483648; omega) (by show R2 103 (i : Int) + 2147483648 ≤ (2147483649 : Int); omega) (by show 2147483649 < 4294967296; omega)
        · have ht : (52, 4) = (t, n) := ht
          cases ht
          have q := hJ2.g104 (i := (i : Int)) (by omega)
          rw [y9 i hi]
          by_cases hq : i / 2 = b2
          · rw [if_pos hq]
            have := x104 (i % 2) (by omega)
            rw [show 2 * b2 + i % 2 = i by omega] at this
            exact lw_fx.x this
          · rw [if_neg hq]
            exact lw_fx.i (by omega) (by omega) (by omega)
        · have ht : (50, 1120) = (t, n) := ht
          cases ht
          rw [y1.2.2.2.1] at h60
          have h60 : 60 + 10 * b2 + m2 < 60 := h60
          omega
        · have ht : (50, 1120) = (t, n) := ht
          cases ht
          rw [y6 108 (by omega) (by omega) (by omega) (by omega) (by omega) (by omega), g2 (108, 0, 4294967295) (by decide) i hi]
          exact lw_fx.t
        · have ht : (50, 90) = (t, n) := ht
          cases ht
          rw [y6 109 (by omega) (by omega) (by omega) (by omega) (by omega) (by omega), g2 (109, 0, 4294967295) (by decide) i hi]
          exact lw_fx.t
        · have ht : (50, 90) = (t, n) := ht
          cases ht
          rw [y6 110 (by omega) (by omega) (by omega) (by omega) (by omega) (by omega), g2 (110, 0, 4294967295) (by decide) i hi]
          exact lw_fx.t
        · have ht : (50, 26) = (t, n) := ht
          cases ht
          rw [y6 112 (by omega) (by omega) (by omega) (by omega) (by omega) (by omega), g3 i hi]
          by_cases hq : i = 25
          · subst hq
            rw [if_pos rfl]
            have q := hJ2.2.2.2.2.2.2.2.2.2.2.2.2.2.2.2
            show lw_fx ads T (11, 2147483648, 2147484647) (R2 112 25)
            exact lw_fx.i (by omega) (by omega) (by omega)
          · rw [if_neg hq]
            exact lw_fx.t
        · have ht : (52, 3) = (t, n) := ht
          cases ht
          rw [y6 132 (by omega) (by omega) (by omega) (by omega) (by omega) (by omega), g2 (132, 2147483648, 2147483649) (by decide) i hi]
          have q := hJ2.g132 (i := (i : Int)) (by omega)
          exact lw_fx.i (by show (2147483648 : Int) ≤ R2 132 (i : Int) + 2147483648; omega) (by show R2 132 (i : Int) + 2147483648 ≤ (2147483649 : Int); omega) (by show 2147483649 < 4294967296; omega)
      · rw [if_neg hz]
        have k104 : k ≠ 104 := fun e => hz (by subst e; decide)
        have k107 : k ≠ 107 := fun e => hz (by subst e; decide)
        have k101 : k ≠ 101 := fun e => hz (by subst e; decide)
        have k102 : k ≠ 102 := fun e => hz (by subst e; decide)
        have k86 : k ≠ 86 := fun e => hz (by subst e; decide)
        have e1 := y6 k ⟨k1, k86⟩ k2 k104 k107 k101 k102
        rw [e1, ← w6 k ⟨k1, k86⟩ k2 k104 k107 k101 k102]
        refine f2 k t n k1 k2 ht h53 ?_ i hi
        rw [w6 k ⟨k1, k86⟩ k2 k104 k107 k101 k102, ← e1]
        exact h60
    · show lw_fx ads T (11, 2147483648, 2147484647) (lw_R ws 118 ((26 * a + 25 : Nat) : Int))
      exact lw_118 hb hm (hW b m hb hm).1 h a ha
  rcases hM with ⟨e0, e6, e20, e27, e34, hfr⟩ | ⟨⟨e0, e86⟩, e6, e20, e27, e34, hru, hle⟩
  · rw [n3] at e0 hfr
    have x86 : 4 * (b : Int) ≤ R2 86 1 := by
      have q := hJ2.g86 (i := 1) (by omega)
      have p := lw_num86 hb hm (hW b m hb hm) h
      have e := hfr.1.2.1
      rcases (show b = 0 ∨ b = 1 by omega) with rfl | rfl
      · omega
      · have e : R2 86 1 = lw_R ws 86 1 := e
        omega
    refine fin b m hb hm e0 x86 (by omega) (by omega) (by omega) (by omega) (fun j hj => ?_) (fun r hr hbit => ?_) (fun g hg hlt => ?_) ?_
    · rw [(hfr.2.2.1 _ (by omega) (by omega)).2.2]
      exact n4 j hj
    · obtain ⟨fr, L, z1, z2, z3, z4, z5⟩ := lw_rwR h hb hm w1 r hr hbit
      refine ⟨fr, L, by rw [(hfr.2.2.1 _ (by omega) (by omega)).1]; exact z1, by rw [(hfr.2.2.1 _ (by omega) (by omega)).2.1]; exact z2, z3, z4, rf_W_cg (fun i hi => ?_) z5⟩
      show Int32.ofInt (R2 107 ((fr + i : Nat) : Int)) = Int32.ofInt (lw_R ws 107 ((fr + i : Nat) : Int))
      rw [hfr.2.2.2 _ (by omega) (by omega)]
    · rw [hfr.2.1 _ (by omega) (by omega)]
      rw [hfr.1.1] at hlt
      exact lw_ltR h hb hm w1 g hg hlt
    · rw [e6, e34]
      exact lw_auR h w10 w1
  · have hb2 : ∃ b2 : Nat, b2 < 2 ∧ B2 0 = (b2 : Int) := ⟨1 - b, by omega, by rw [e0, n3]; omega⟩
    obtain ⟨b2, hb2, hB2⟩ := hb2
    have q0 := hJ2.g104 (i := 2 * (b2 : Int)) (by omega)
    have q1 := hJ2.g104 (i := 2 * (b2 : Int) + 1) (by omega)
    obtain ⟨x0, hx0⟩ := Int.eq_ofNat_of_zero_le q0.1
    obtain ⟨x1, hx1⟩ := Int.eq_ofNat_of_zero_le q1.1
    rw [hB2] at hru hle
    have x86 : 4 * (b2 : Int) ≤ R2 86 1 := by
      have q := hJ2.g86 (i := 1) (by omega)
      rw [← e0, hB2] at e86
      rcases (show b2 = 0 ∨ b2 = 1 by omega) with rfl | rfl
      · omega
      · have e : 4 ≤ R2 86 1 := e86
        omega
    refine fin b2 (x0 + 2 * x1) hb2 (by omega) hB2 x86 (by omega) (by omega) (by omega) (by omega) (fun j hj => ?_) (fun r hr hbit => ?_) (fun g hg hlt => ?_) ?_
    · rcases (show j = 0 ∨ j = 1 by omega) with rfl | rfl
      · rw [show ((2 * b2 + 0 : Nat) : Int) = 2 * (b2 : Int) by omega, hx0]
        omega
      · rw [show ((2 * b2 + 1 : Nat) : Int) = 2 * (b2 : Int) + 1 by omega, hx1]
        omega
    · have hr1 : R2 104 (2 * (b2 : Int) + (r : Int)) = 1 := by
        rcases (show r = 0 ∨ r = 1 by omega) with rfl | rfl
        · rw [show (2 * (b2 : Int) + ((0 : Nat) : Int)) = 2 * (b2 : Int) by omega, hx0]
          omega
        · rw [show (2 * (b2 : Int) + ((1 : Nat) : Int)) = 2 * (b2 : Int) + 1 by omega, hx1]
          omega
      have := hru r (by omega) (by omega) hr1
      rw [show ((2 * b2 + r : Nat) : Int) = 2 * (b2 : Int) + r by omega, show ((560 * b2 : Nat) : Int) = 560 * (b2 : Int) by omega, show ((560 * b2 + 560 : Nat) : Int) = 560 * (b2 : Int) + 560 by omega]
      exact this
    · have q88 := hJ2.g88 (i := (b2 : Int)) (by omega)
      have q97 := hJ2.g97 (i := ((8 * b2 + g : Nat) : Int)) (by omega)
      have k88 := lw_key (z := R2 88 (b2 : Int)) (by omega)
      have k97 := lw_key (z := R2 97 ((8 * b2 + g : Nat) : Int)) (by omega)
      have := hle g (by omega) (by omega)
      rw [show (8 * (b2 : Int) + (g : Int)) = ((8 * b2 + g : Nat) : Int) by omega] at this
      omega
    · rw [e6, e34]
      decide +kernel
