/-! FROM AN EXACT WORLD BACK TO THE STATE -/
theorem lw_RL.fit {c1 : Nat → ClassId} {ads : List Nat} {ws : va_W} {b m T : Nat} {hW : ev_H} (hb : b < 2) (hm : m < 4) (hkB : lw_kB hW = true) (hkO : lw_kO hW = true) (h83 : (ev_hg hW 83).1 = 10) (h : lw_RL c1 ads ws b m hW T) :
    (∀ j, lw_tf[j]? = some 0 → ∀ v, (ev_hg hW 83).2[j]? = some v → lw_fx ads T v (lw_F ws j)) ∧ (∀ k t n, 84 ≤ k → k < 133 → lw_tt.getD k (0, 0) = (t, n) → t ≠ 53 → (ev_hg hW k).1 < 60 → lw_fk ads T (ev_hg hW k) n (lw_R ws k)) := by
  refine ⟨fun j hj v hv => ?_, fun k t n k1 k2 ht h53 h60 => ?_⟩
  · obtain ⟨e, he, hr⟩ := h.1 83 (by omega) (by omega)
    rw [h83] at hr
    obtain ⟨vs, rfl, v2, v3⟩ := hr.obj (show 10 < 50 by decide)
    obtain ⟨u, hu, u0, -, -⟩ := lw_kO_at hkO hj
    rw [hv] at hu
    cases hu
    obtain ⟨w, hw, hrel⟩ := v3 j v hv
    obtain ⟨x, rfl⟩ := hrel.intI (by rcases u0 rfl with z | z | z <;> rw [z] <;> rfl)
    unfold lw_fx
    rw [lw_F_c he hw, Int32.ofInt_toInt]
    exact hrel
  · obtain ⟨e, he, hr⟩ := h.1 k (by omega) k2
    have hk := List.all_eq_true.mp hkB k (List.mem_range.mpr k2)
    rw [show Nat.blt k 84 = false from sy_blt_f k1, Bool.false_or, ht] at hk
    obtain ⟨s1, -⟩ := lw_shape hkB k1 k2 ht hr (fun tg _ _ ho => lw_op_sh hb hm ho)
    obtain ⟨t1, t2, f, rfl⟩ := s1 h53
    intro j hj
    unfold lw_fx
    rw [(lw_R_c he j).1]
    refine lw_el_of (cA := lw_oA c1 ws b m) hr rfl ?_ ?_ j hj
    · generalize ev_hg hW k = q at hk h60
      obtain ⟨c, l⟩ := q
      have h60 : c < 60 := h60
      simp only [Bool.or_eq_true, Bool.and_eq_true] at hk
      rcases hk with ((⟨⟨⟨a1, a2⟩, a3⟩, a4⟩ | ⟨⟨⟨a1, a2⟩, a3⟩, a4⟩) | ⟨⟨a1, a2⟩, a3⟩) | ⟨⟨⟨a1, a2⟩, a3⟩, a4⟩
      · have a1 := Nat.eq_of_beq_eq_true a1
        exact Or.inl ⟨by show c < 53; omega, Nat.eq_of_beq_eq_true a4⟩
      · have a1 := Nat.eq_of_beq_eq_true a1
        exact Or.inr ⟨by show 54 ≤ c; omega, by show c ≤ 56; omega⟩
      · exact absurd (Nat.eq_of_beq_eq_true a2) h53
      · have a1 := Nat.le_of_ble_eq_true a1
        omega
    · generalize ev_hg hW k = q at hk h60
      obtain ⟨c, l⟩ := q
      have h60 : c < 60 := h60
      simp only [Bool.or_eq_true, Bool.and_eq_true] at hk
      show 50 ≤ c
      rcases hk with ((⟨⟨⟨a1, a2⟩, a3⟩, a4⟩ | ⟨⟨⟨a1, a2⟩, a3⟩, a4⟩) | ⟨⟨a1, a2⟩, a3⟩) | ⟨⟨⟨a1, a2⟩, a3⟩, a4⟩
      · have a1 := Nat.eq_of_beq_eq_true a1
        omega
      · have a1 := Nat.eq_of_beq_eq_true a1
        omega
      · exact absurd (Nat.eq_of_beq_eq_true a2) h53
      · have a1 := Nat.le_of_ble_eq_true a1
        omega
theorem lw_F_to {F : Nat → Int} {N : Nat} {j : Nat} (hj : lw_tf[j]? = some 0) : (lw_o F N)[j]? = some (mw_i (F j)) := by
  unfold lw_o
  rw [List.getElem?_map, List.getElem?_zipIdx, hj]
  show some (if (0 : Nat) = 0 then mw_i (F (0 + j)) else _) = _
  rw [if_pos rfl, Nat.zero_add]
/-- an exact world's rows and parts -/
def lw_E (h : ev_H) (F : Nat → Int) (N : Nat) (R : Nat → Int → Int) : Prop := ev_hg h 83 = (10, lw_o F N) ∧ ∀ k t n, 84 ≤ k → k < 133 → lw_tt.getD k (0, 0) = (t, n) → (t ≠ 53 → ev_hg h k = (t, mw_row k R n)) ∧ (t = 53 → ev_hg h k = (53, [(0, n, 0)]))
theorem lw_x_E (ws : va_W) : lw_E (lw_x ws) (lw_F ws) (lw_N ws) (lw_R ws) := ⟨lw_x_83 ws, fun k t n k1 k2 ht => ⟨fun h53 => lw_x_row ws (by omega) k2 ht h53, fun h53 => lw_x_53 ws (by omega) k2 (by rw [ht, h53])⟩⟩
/-- what must hold of parts and rows for the state -/
def lw_ok (ads : List Nat) (b m T : Nat) (hW : ev_H) (F : Nat → Int) (R : Nat → Int → Int) : Prop :=
  (∀ j, lw_tf[j]? = some 0 → ∀ v, (ev_hg hW 83).2[j]? = some v → lw_fx ads T v (F j)) ∧
  (∀ k t n, 84 ≤ k → k < 133 → lw_tt.getD k (0, 0) = (t, n) → t ≠ 53 → (ev_hg hW k).1 < 60 → lw_fk ads T (ev_hg hW k) n (R k)) ∧
  (∀ a : Nat, a < 41 → lw_fx ads T (11, 2147483648, 2147484647) (R 118 ((26 * a + 25 : Nat) : Int))) ∧
  (∀ r : Nat, r < 2 → m / 2 ^ r % 2 = 1 → mw_ru R ((2 * b + r : Nat) : Int) ((560 * b : Nat) : Int) ((560 * b + 560 : Nat) : Int)) ∧
  (∀ g : Nat, g < 8 → 2147483648 + g < ev_key (Int32.ofInt (R 88 (b : Int))) → 2147483649 ≤ ev_key (Int32.ofInt (R 97 ((8 * b + g : Nat) : Int)))) ∧ ev_key (Int32.ofInt (F 6)) + ev_key (Int32.ofInt (F 34)) ≤ 4294967336
theorem lw_RL.of {D : va_G} {cA : e2_cA} {A : Nat → Prop} {c1 : Nat → ClassId} {ads r : List Nat} {ws : va_W} {H : Heap} {b m T : Nat} {hW h : ev_H} {F : Nat → Int} {N : Nat} {R : Nat → Int → Int} (hb : b < 2) (hm : m < 4) (hc : cA.1 = c1) (hw : e2_wo D cA A ads r ws h H) (hE : lw_E h F N R) (hW1 : lw_okW hW b m) (hkB : lw_kB hW = true) (hkO : lw_kO hW = true) (hl83 : (ev_hg hW 83).2.length = 80) (h42 : (ev_hg hW 83).2[42]? = some (5, 0, 0)) (hok : lw_ok ads b m T hW F R) : lw_RL c1 ads ws b m hW T := by
  subst hc
  obtain ⟨E1, E2⟩ := hE
  obtain ⟨f1, f2, f3, f4, f5, f6⟩ := hok
  have hh := lw_half hw 83 133 (Nat.le_refl _)
  have row : ∀ k t n, 84 ≤ k → k < 133 → lw_tt.getD k (0, 0) = (t, n) → 50 ≤ t → t ≤ 52 → ∃ f : Nat → Int32, lw_c ws k (.inl (cA.1 (t - 50), n, .inl f)) ∧ ∀ j, j < n → f j = Int32.ofInt (R k (j : Int)) := fun k t n k1 k2 ht t1 t2 => by
    obtain ⟨e, q1, q2⟩ := hh k (by omega) k2
    rw [(E2 k t n k1 k2 ht).1 (by omega)] at q2
    obtain ⟨g, g1, g2⟩ := q2.arr t1 t2
    have g1 : e = .inl (cA.1 (t - 50), (mw_row k R n).length, .inl g) := g1
    rw [mw_row_R, sy_R_len] at g1
    subst g1
    refine ⟨g, q1, fun j hj => ?_⟩
    have := g2 j (sy_I (Int32.ofInt (R k (j : Int)))) (by show (mw_row k R n)[j]? = _; rw [mw_row_R, sy_R_get hj])
    have hx : Value.int (g j) = .int (ev_i (ev_u (Int32.ofInt (R k (j : Int))))) := this
    rw [ev_iu] at hx
    injection hx
  obtain ⟨⟨l, o1, o6, o34⟩, o88, o97, t107, t101, t102, t118, tt, -⟩ := hW1
  obtain ⟨g107, c107, e107⟩ := row 107 50 1120 (by omega) (by omega) rfl (by omega) (by omega)
  obtain ⟨g101, c101, e101⟩ := row 101 50 4 (by omega) (by omega) rfl (by omega) (by omega)
  obtain ⟨g102, c102, e102⟩ := row 102 50 4 (by omega) (by omega) rfl (by omega) (by omega)
  obtain ⟨g118, c118, e118⟩ := row 118 50 1066 (by omega) (by omega) rfl (by omega) (by omega)
  obtain ⟨g88, c88, e88⟩ := row 88 50 2 (by omega) (by omega) rfl (by omega) (by omega)
  obtain ⟨g97, c97, e97⟩ := row 97 50 16 (by omega) (by omega) rfl (by omega) (by omega)
  obtain ⟨e83, c83, r83⟩ := hh 83 (by omega) (by omega)
  rw [E1] at r83
  obtain ⟨vs, rfl, v2, v3⟩ := r83.obj (show 10 < 50 by decide)
  have hF : ∀ j, lw_tf[j]? = some 0 → vs[j]? = some (Value.int (Int32.ofInt (F j))) := fun j hj => by
    obtain ⟨w, w1, w2⟩ := v3 j _ (lw_F_to hj)
    have w2 : w = .int (ev_i (ev_u (Int32.ofInt (F j)))) := w2
    rw [ev_iu] at w2
    rw [w1, w2]
  refine ⟨fun k k1 k2 => ?_, fun C F2 T2 hC hF2 hT2 r0 hr0 hbit => ?_, fun f g hf hg j hj hlt => ?_, fun vs' hvs x y hx hy => ?_⟩
  · by_cases z83 : k = 83
    · subst z83
      refine ⟨_, c83, ?_⟩
      rw [o1]
      refine Or.inl ⟨by show 10 < 50; decide, vs, rfl, ?_, fun j v hj => ?_⟩
      · rw [v2]
        have : l.length = 80 := by rw [o1] at hl83; exact hl83
        rw [this]
        show (lw_o F N).length = 80
        unfold lw_o
        rw [List.length_map, List.length_zipIdx, lw_tf_len]
      · have hj80 : j < 80 := by
          have h1 := (List.getElem?_eq_some_iff.mp hj).1
          rw [o1] at hl83
          have hl83 : l.length = 80 := hl83
          omega
        have hvj : (ev_hg hW 83).2[j]? = some v := by rw [o1]; exact hj
        obtain ⟨q, hq⟩ : ∃ q, lw_tf[j]? = some q := ⟨_, List.getElem?_eq_getElem (by rw [lw_tf_len]; exact hj80)⟩
        obtain ⟨u, hu, u0, u1, u2⟩ := lw_kO_at hkO hq
        rw [hvj] at hu
        cases hu
        by_cases q0 : q = 0
        · subst q0
          exact ⟨_, hF j hq, f1 j hq v hvj⟩
        · have hoj : (lw_o F N)[j]? = some (if q = 0 then mw_i (F j) else if q = 1 then (4, N, 0) else (2, q, 0)) := by
            unfold lw_o
            rw [List.getElem?_map, List.getElem?_zipIdx, hq]
            show some (if q = 0 then mw_i (F (0 + j)) else if q = 1 then (4, N, 0) else (2, q, 0)) = _
            rw [Nat.zero_add]
          obtain ⟨w, w1, w2⟩ := v3 j _ hoj
          rw [if_neg q0] at w2
          by_cases q1 : q = 1
          · rw [if_pos q1] at w2
            have w2 : w = .long (Int64.ofNat N) := w2
            have hv5 : v = (5, 0, 0) := by
              have hj42 : j = 42 := by
                subst q1
                have key : ∀ j, j < 80 → lw_tf[j]? = some 1 → j = 42 := by decide
                exact key j hj80 hq
              subst hj42
              rw [hvj] at h42
              exact Option.some.inj h42
            subst hv5
            exact ⟨w, w1, _, w2⟩
          · rw [if_neg q1] at w2
            obtain ⟨y1, y2⟩ := u2 q0 q1
            obtain ⟨t, aa, bb⟩ := v
            have y1 : t = 2 := y1
            have y2 : aa = q := y2
            subst y1
            subst y2
            exact ⟨w, w1, w2⟩
    · obtain ⟨t, n, ht⟩ : ∃ t n, lw_tt.getD k (0, 0) = (t, n) := ⟨_, _, rfl⟩
      have hk := List.all_eq_true.mp hkB k (List.mem_range.mpr k2)
      rw [show Nat.blt k 84 = false from sy_blt_f (by omega), Bool.false_or, ht] at hk
      by_cases a1 : k = 107
      · subst a1
        refine ⟨_, c107, ?_⟩
        rw [t107]
        exact Or.inr (Or.inr (Or.inr (Or.inr (Or.inl ⟨by show 60 ≤ 60 + 10 * b + m; omega, fun _ => Or.inr (Or.inl ⟨rfl, g107, g107, rfl, c107, fun _ _ => rfl⟩)⟩))))
      by_cases a2 : k = 101
      · subst a2
        refine ⟨_, c101, ?_⟩
        rw [t101]
        exact Or.inr (Or.inr (Or.inr (Or.inr (Or.inl ⟨by show 60 ≤ 64 + 10 * b; omega, fun _ => Or.inr (Or.inr (Or.inl ⟨rfl, g101, g101, rfl, c101, fun _ _ => rfl⟩))⟩))))
      by_cases a3 : k = 102
      · subst a3
        refine ⟨_, c102, ?_⟩
        rw [t102]
        exact Or.inr (Or.inr (Or.inr (Or.inr (Or.inl ⟨by show 60 ≤ 65 + 10 * b; omega, fun _ => Or.inr (Or.inr (Or.inr ⟨rfl, g102, g102, rfl, c102, fun _ _ => rfl⟩))⟩))))
      by_cases a4 : k = 118
      · subst a4
        refine ⟨_, c118, ?_⟩
        rw [t118]
        refine Or.inr (Or.inr (Or.inr (Or.inr (Or.inl ⟨by show 60 ≤ 66; decide, fun _ => Or.inl ⟨rfl, g118, rfl, fun a ha => ?_⟩⟩))))
        rw [e118 _ (by omega)]
        obtain ⟨x, hx, y1, y2⟩ := f3 a ha
        injection hx with hx
        rw [hx]
        exact ⟨y1, y2⟩
      have h60 := tt k (by omega) k2 a1 a2 a3 a4
      by_cases h53 : t = 53
      · obtain ⟨e, q1, q2⟩ := hh k (by omega) k2
        rw [(E2 k t n (by omega) k2 ht).2 h53] at q2
        refine ⟨e, q1, ?_⟩
        generalize ev_hg hW k = q at hk h60 ⊢
        obtain ⟨c, l2⟩ := q
        have h60 : c < 60 := h60
        simp only [Bool.or_eq_true, Bool.and_eq_true] at hk
        rcases hk with ((⟨⟨⟨a1, a2⟩, a3⟩, a4⟩ | ⟨⟨⟨a1, a2⟩, a3⟩, a4⟩) | ⟨⟨a1, a2⟩, a3⟩) | ⟨⟨⟨a1, a2⟩, a3⟩, a4⟩
        · have a2 : t + 1 ≤ 53 := Nat.le_of_ble_eq_true a2
          omega
        · have a2 : t + 1 ≤ 53 := Nat.le_of_ble_eq_true a2
          omega
        · have a1 := Nat.eq_of_beq_eq_true a1
          subst a1
          obtain ⟨N0, b0, f, y1, y2⟩ := q2.lng rfl
          cases y1
          obtain ⟨N1, b1, hl⟩ : ∃ N1 b1, l2 = [(0, N1, b1)] := by
            match l2, a3 with
            | [(0, N1, b1)], _ => exact ⟨N1, b1, rfl⟩
          subst hl
          have a3 : N1 = n := Nat.eq_of_beq_eq_true a3
          subst a3
          exact Or.inr (Or.inr (Or.inl ⟨rfl, N1, b1, f, rfl, y2⟩))
        · have a1 := Nat.le_of_ble_eq_true a1
          omega
      · have htt : 50 ≤ t ∧ t ≤ 52 := by
          have := lw_tt_all k k2 (by omega)
          rw [ht] at this
          have this : t = 53 ∨ (50 ≤ t ∧ t ≤ 52) := this
          omega
        obtain ⟨f, hcf, hf⟩ := row k t n (by omega) k2 ht htt.1 htt.2
        refine ⟨_, hcf, ?_⟩
        refine lw_el_to (cA := lw_oA cA.1 ws b m) (t := t) (fun j hj => ?_) ?_ htt.1
        · rw [hf j hj]
          exact f2 k t n (by omega) k2 ht h53 h60 j hj
        · generalize ev_hg hW k = q at hk h60 ⊢
          obtain ⟨c, l2⟩ := q
          have h60 : c < 60 := h60
          simp only [Bool.or_eq_true, Bool.and_eq_true] at hk
          rcases hk with ((⟨⟨⟨a1, a2⟩, a3⟩, a4⟩ | ⟨⟨⟨a1, a2⟩, a3⟩, a4⟩) | ⟨⟨a1, a2⟩, a3⟩) | ⟨⟨⟨a1, a2⟩, a3⟩, a4⟩
          · have a1 := Nat.eq_of_beq_eq_true a1
            exact Or.inl ⟨by show c < 53; omega, a1, Nat.eq_of_beq_eq_true a4⟩
          · have a1 := Nat.eq_of_beq_eq_true a1
            refine Or.inr ⟨a1, by show c ≤ 56; omega, ?_⟩
            match l2, a4 with
            | [(0, n', b'), (11, lo, hi)], a4 =>
              have a4 : n' = n := Nat.eq_of_beq_eq_true a4
              subst a4
              exact ⟨b', lo, hi, rfl⟩
          · exact absurd (Nat.eq_of_beq_eq_true a2) h53
          · have a1 := Nat.le_of_ble_eq_true a1
            omega
  · have hC := lw_inj (hC.un c107)
    have hF2 := lw_inj (hF2.un c101)
    have hT2 := lw_inj (hT2.un c102)
    subst hC
    subst hF2
    subst hT2
    obtain ⟨fr, L, y1, y2, y3, y4, y5⟩ := f4 r0 hr0 hbit
    refine ⟨fr, L, ?_, ?_, by omega, by omega, rf_W_cg (fun i hi => ?_) y5⟩
    · rw [e101 _ (by omega), y1, mo_ev]
    · rw [e102 _ (by omega), y2, mo_ev]
    · rw [e107 _ (by omega)]
  · have hf := lw_inj (hf.un c88)
    have hg := lw_inj (hg.un c97)
    subst hf
    subst hg
    rw [e88 b hb] at hlt
    rw [e97 _ (by omega)]
    exact f5 j hj hlt
  · have := lw_c.un hvs c83
    injection this with this
    injection this with _ this
    subst this
    rw [hF 6 rfl] at hx
    rw [hF 34 rfl] at hy
    injection hx with hx
    injection hx with hx
    injection hy with hy
    injection hy with hy
    rw [← hx, ← hy]
    exact f6
