/-! THE REFERENCE'S HALF MADE EXACT: the object's parts and the rows as they are in the world -/
def lw_F (ws : va_W) (j : Nat) : Int := match ((ws[83]?).map Prod.snd : Option va_E) with
  | some (Sum.inr (_, vs)) => (match (vs[j]? : Option Value) with
    | some (Value.int x) => x.toInt
    | _ => 0)
  | _ => 0
def lw_N (ws : va_W) : Nat := match ((ws[83]?).map Prod.snd : Option va_E) with
  | some (Sum.inr (_, vs)) => (match (vs[42]? : Option Value) with
    | some (Value.long x) => x.toUInt64.toNat
    | _ => 0)
  | _ => 0
def lw_R (ws : va_W) (k : Nat) (i : Int) : Int := match ((ws[k]?).map Prod.snd : Option va_E) with
  | some (Sum.inl (_, _, Sum.inl f)) => (f i.toNat).toInt
  | _ => 0
def lw_tf : List Nat := [0, 88, 115, 114, 86, 112, 0, 118, 120, 131, 91, 0, 123, 0, 0, 87, 84, 122, 100, 132, 0, 0, 0, 0, 0, 93, 104, 0, 89, 92, 119, 90, 94, 103, 0, 0, 0, 0, 0, 0, 85, 0, 1, 95, 96, 97, 98, 99, 101, 102, 105, 106, 107, 108, 109, 110, 111, 0, 0, 0, 0, 0, 0, 0, 0, 0, 113, 116, 117, 121, 0, 0, 124, 125, 0, 126, 127, 128, 129, 130]
def lw_tt : List (Nat × Nat) := [(0, 0), (0, 0), (0, 0), (0, 0), (0, 0), (0, 0), (0, 0), (0, 0), (0, 0), (0, 0), (0, 0), (0, 0), (0, 0), (0, 0), (0, 0), (0, 0), (0, 0), (0, 0), (0, 0), (0, 0), (0, 0), (0, 0), (0, 0), (0, 0), (0, 0), (0, 0), (0, 0), (0, 0), (0, 0), (0, 0), (0, 0), (0, 0), (0, 0), (0, 0), (0, 0), (0, 0), (0, 0), (0, 0), (0, 0), (0, 0), (0, 0), (0, 0), (0, 0), (0, 0), (0, 0), (0, 0), (0, 0), (0, 0), (0, 0), (0, 0), (0, 0), (0, 0), (0, 0), (0, 0), (0, 0), (0, 0), (0, 0), (0, 0), (0, 0), (0, 0), (0, 0), (0, 0), (0, 0), (0, 0), (0, 0), (0, 0), (0, 0), (0, 0), (0, 0), (0, 0), (0, 0), (0, 0), (0, 0), (0, 0), (0, 0), (0, 0), (0, 0), (0, 0), (0, 0), (0, 0), (0, 0), (0, 0), (0, 0), (0, 0), (51, 1620), (51, 1600), (50, 2), (50, 2), (50, 2), (50, 2), (50, 2), (50, 2), (50, 2), (50, 2), (50, 2), (50, 8), (50, 16), (50, 16), (50, 16), (50, 16), (50, 16), (50, 4), (50, 4), (52, 2), (52, 4), (53, 8), (53, 16), (50, 1120), (50, 1120), (50, 90), (50, 90), (50, 60), (50, 26), (50, 160), (50, 189), (50, 189), (50, 20), (50, 20), (50, 1066), (50, 20), (50, 26), (50, 20), (50, 8), (50, 256), (50, 3), (50, 3), (50, 30), (50, 30), (50, 30), (50, 30), (50, 16), (50, 78), (52, 3)]
def lw_o (F : Nat → Int) (N : Nat) : List ev_V := lw_tf.zipIdx.map fun q => if q.1 = 0 then mw_i (F q.2) else if q.1 = 1 then (4, N, 0) else (2, q.1, 0)
set_option maxRecDepth 100000 in
theorem lw_o_eq (F : Nat → Int) (N : Nat) : lw_o F N = mw_o F (F 23) (F 24) (F 36) (F 37) (F 38) (F 41) N (F 57) (F 58) (F 59) (F 60) := rfl
noncomputable def lw_xc (ws : va_W) (k : Nat) : ev_C :=
  if k = 83 then (10, lw_o (lw_F ws) (lw_N ws)) else if k < 83 ∨ 133 ≤ k then (100 + k, []) else
    if (lw_tt.getD k (0, 0)).1 = 53 then (53, [(0, (lw_tt.getD k (0, 0)).2, 0)]) else ((lw_tt.getD k (0, 0)).1, mw_row k (lw_R ws) (lw_tt.getD k (0, 0)).2)
noncomputable def lw_x (ws : va_W) : ev_H := ev_tmk 8 (lw_xc ws)
theorem lw_x_get (ws : va_W) {k : Nat} (hk : k < 133) : ev_hg (lw_x ws) k = lw_xc ws k := ev_tmk_get 8 _ k (by omega)
theorem lw_x_83 (ws : va_W) : ev_hg (lw_x ws) 83 = (10, lw_o (lw_F ws) (lw_N ws)) := by rw [lw_x_get ws (by omega), lw_xc, if_pos rfl]
theorem lw_x_row (ws : va_W) {k t n : Nat} (h1 : 83 < k) (h2 : k < 133) (ht : lw_tt.getD k (0, 0) = (t, n)) (h53 : t ≠ 53) : ev_hg (lw_x ws) k = (t, mw_row k (lw_R ws) n) := by
  rw [lw_x_get ws h2, lw_xc, if_neg (by omega), if_neg (by omega), ht, if_neg h53]
theorem lw_x_53 (ws : va_W) {k n : Nat} (h1 : 83 < k) (h2 : k < 133) (ht : lw_tt.getD k (0, 0) = (53, n)) : ev_hg (lw_x ws) k = (53, [(0, n, 0)]) := by
  rw [lw_x_get ws h2, lw_xc, if_neg (by omega), if_neg (by omega), ht, if_pos rfl]
theorem lw_x_fr (ws : va_W) {k : Nat} (h2 : k < 133) (h : ¬ (83 ≤ k ∧ k < 133)) : ev_hg (lw_x ws) k = (100 + k, []) := by
  rw [lw_x_get ws h2, lw_xc, if_neg (by omega), if_pos (by omega)]
/-- closed: the kinds of the weak heap's cells -/
noncomputable def lw_kB (hW : ev_H) : Bool := (List.range 133).all fun k => Nat.blt k 84 || (match (ev_hg hW k), lw_tt.getD k (0, 0) with
  | (c, l), (t, n) => (Nat.beq c t && Nat.blt t 53 && Nat.ble 50 t && Nat.beq l.length n) || (Nat.beq c (t + 4) && Nat.blt t 53 && Nat.ble 50 t && (match l with | [(0, n', _), (11, _, _)] => Nat.beq n' n | _ => false)) || (Nat.beq c 53 && Nat.beq t 53 && (match l with | [(0, n', _)] => Nat.beq n' n | _ => false)) || (Nat.ble 60 c && Nat.blt c 76 && Nat.beq t 50 && Nat.beq (rf_n c) n))
noncomputable def lw_kO (hW : ev_H) : Bool := (lw_tf.zipIdx).all fun q => match (ev_hg hW 83).2[q.2]? with
  | some v => if q.1 = 0 then Nat.beq v.1 0 || Nat.beq v.1 1 || Nat.beq v.1 11 else if q.1 = 1 then Nat.beq v.1 4 || Nat.beq v.1 5 || Nat.beq v.1 6 else Nat.beq v.1 2 && Nat.beq v.2.1 q.1
  | none => false
theorem lw_shape {c1 : Nat → ClassId} {ws : va_W} {b m : Nat} {ads r : List Nat} {hW : ev_H} {k t n : Nat} {e : va_E} (hk : lw_kB hW = true) (h1 : 84 ≤ k) (h2 : k < 133) (ht : lw_tt.getD k (0, 0) = (t, n)) (hr : e2_relC (lw_oA c1 ws b m) ads r (ev_hg hW k).1 (ev_hg hW k).2 e) (h : ∀ tg, 60 ≤ tg → tg < 76 → lw_op c1 ws b m tg e → ∃ g, e = .inl (c1 0, rf_n tg, .inl g)) : (t ≠ 53 → 50 ≤ t ∧ t ≤ 52 ∧ ∃ f, e = .inl (c1 (t - 50), n, .inl f)) ∧ (t = 53 → ∃ f, e = .inl (c1 3, n, .inr (.inl f))) := by
  have hk := List.all_eq_true.mp hk k (List.mem_range.mpr h2)
  rw [show Nat.blt k 84 = false from sy_blt_f h1, Bool.false_or, ht] at hk
  generalize ev_hg hW k = q at hk hr
  obtain ⟨c, l⟩ := q
  simp only [Bool.or_eq_true, Bool.and_eq_true] at hk
  rcases hk with ((⟨⟨⟨a1, a2⟩, a3⟩, a4⟩ | ⟨⟨⟨a1, a2⟩, a3⟩, a4⟩) | ⟨⟨a1, a2⟩, a3⟩) | ⟨⟨⟨a1, a2⟩, a3⟩, a4⟩
  · have a1 := Nat.eq_of_beq_eq_true a1
    have a2 : t + 1 ≤ 53 := Nat.le_of_ble_eq_true a2
    have a3 := Nat.le_of_ble_eq_true a3
    have a4 := Nat.eq_of_beq_eq_true a4
    subst a1
    subst a4
    refine ⟨fun _ => ⟨a3, by omega, ?_⟩, fun z => by omega⟩
    obtain ⟨f, q1, -⟩ := hr.arr a3 (by show c ≤ 52; omega)
    exact ⟨f, q1⟩
  · have a1 := Nat.eq_of_beq_eq_true a1
    have a2 : t + 1 ≤ 53 := Nat.le_of_ble_eq_true a2
    have a3 := Nat.le_of_ble_eq_true a3
    subst a1
    refine ⟨fun _ => ⟨a3, by omega, ?_⟩, fun z => by omega⟩
    obtain ⟨N, b', lo, hi, f, q1, q2, -⟩ := hr.uni (by show 54 ≤ t + 4; omega) (by show t + 4 ≤ 56; omega)
    have q1 : l = [(0, N, b'), (11, lo, hi)] := q1
    subst q1
    have a4 : N = n := Nat.eq_of_beq_eq_true a4
    subst a4
    exact ⟨f, by rw [q2]; show Sum.inl (c1 (t + 4 - 54), N, Sum.inl f) = _; rw [show t + 4 - 54 = t - 50 by omega]⟩
  · have a1 := Nat.eq_of_beq_eq_true a1
    have a2 := Nat.eq_of_beq_eq_true a2
    subst a1
    subst a2
    refine ⟨fun z => absurd rfl z, fun _ => ?_⟩
    obtain ⟨N, b', f, q1, q2⟩ := hr.lng rfl
    have q1 : l = [(0, N, b')] := q1
    subst q1
    have a3 : N = n := Nat.eq_of_beq_eq_true a3
    subst a3
    exact ⟨f, q2⟩
  · have a1 := Nat.le_of_ble_eq_true a1
    have a2 : c + 1 ≤ 76 := Nat.le_of_ble_eq_true a2
    have a3 := Nat.eq_of_beq_eq_true a3
    have a4 := Nat.eq_of_beq_eq_true a4
    subst a3
    subst a4
    refine ⟨fun _ => ⟨by omega, by omega, ?_⟩, fun z => by omega⟩
    have q3 : lw_op c1 ws b m c e := by
      rcases hr with ⟨x, -⟩ | ⟨-, x, -⟩ | ⟨x, -⟩ | ⟨-, x, -⟩ | ⟨-, x⟩ | ⟨x, -⟩ | ⟨x, -⟩ | ⟨x, -⟩
      · have x : c < 50 := x
        omega
      · have x : c ≤ 52 := x
        omega
      · have x : c = 53 := x
        omega
      · have x : c ≤ 56 := x
        omega
      · exact x (by show c < 999; omega)
      · have x : c = 57 := x
        omega
      · have x : c = 58 := x
        omega
      · have x : c = 59 := x
        omega
    exact h c a1 (by omega) q3
theorem lw_op_sh {c1 : Nat → ClassId} {ws : va_W} {b m : Nat} (hb : b < 2) (hm : m < 4) {tg : Nat} {e : va_E} (h : lw_op c1 ws b m tg e) : ∃ g, e = .inl (c1 0, rf_n tg, .inl g) := by
  rcases h with ⟨rfl, g, rfl, -⟩ | ⟨rfl, g, g0, rfl, -⟩ | ⟨rfl, g, g0, rfl, -⟩ | ⟨rfl, g, g0, rfl, -⟩
  · exact ⟨g, rfl⟩
  · exact ⟨g, by rw [rf_n_c b hb m hm]⟩
  · exact ⟨g, by rw [(rf_n_f b hb).1]⟩
  · exact ⟨g, by rw [(rf_n_f b hb).2]⟩
theorem lw_R_c {ws : va_W} {k n : Nat} {c : ClassId} {f : Nat → Int32} (h : lw_c ws k (.inl (c, n, .inl f))) (j : Nat) : Int32.ofInt (lw_R ws k (j : Int)) = f j ∧ lw_R ws k (j : Int) = (f j).toInt := by
  obtain ⟨a, h⟩ := h
  have e : lw_R ws k (j : Int) = (f j).toInt := by
    unfold lw_R
    rw [h]
    show (f ((j : Int)).toNat).toInt = _
    rw [Int.toNat_natCast]
  exact ⟨by rw [e, Int32.ofInt_toInt], e⟩
theorem lw_F_c {ws : va_W} {vs : List Value} {j : Nat} {x : Int32} (h : lw_c ws 83 (.inr (10, vs))) (hj : vs[j]? = some (.int x)) : lw_F ws j = x.toInt := by
  obtain ⟨a, h⟩ := h
  unfold lw_F
  rw [h]
  show (match vs[j]? with | some (.int x) => x.toInt | _ => 0) = _
  rw [hj]
theorem lw_N_c {ws : va_W} {vs : List Value} {x : Int64} (h : lw_c ws 83 (.inr (10, vs))) (hj : vs[42]? = some (.long x)) : lw_N ws = x.toUInt64.toNat := by
  obtain ⟨a, h⟩ := h
  unfold lw_N
  rw [h]
  show (match vs[42]? with | some (.long x) => x.toUInt64.toNat | _ => 0) = _
  rw [hj]
theorem lw_tf_len : lw_tf.length = 80 := rfl
theorem lw_o_get (F : Nat → Int) (N : Nat) {j : Nat} {v : ev_V} (h : (lw_o F N)[j]? = some v) : ∃ q, lw_tf[j]? = some q ∧ v = if q = 0 then mw_i (F j) else if q = 1 then (4, N, 0) else (2, q, 0) := by
  unfold lw_o at h
  rw [List.getElem?_map, List.getElem?_zipIdx] at h
  cases hq : lw_tf[j]? with
  | none => rw [hq] at h; cases h
  | some q =>
    rw [hq] at h
    refine ⟨q, rfl, ?_⟩
    have h := (Option.some.inj h).symm
    rw [h]
    show (if q = 0 then mw_i (F (0 + j)) else if q = 1 then (4, N, 0) else (2, q, 0)) = _
    rw [Nat.zero_add]
theorem lw_kO_at {hW : ev_H} (hk : lw_kO hW = true) {j q : Nat} (hq : lw_tf[j]? = some q) : ∃ v, (ev_hg hW 83).2[j]? = some v ∧ (q = 0 → v.1 = 0 ∨ v.1 = 1 ∨ v.1 = 11) ∧ (q = 1 → v.1 = 4 ∨ v.1 = 5 ∨ v.1 = 6) ∧ (q ≠ 0 → q ≠ 1 → v.1 = 2 ∧ v.2.1 = q) := by
  have hm : (q, j) ∈ lw_tf.zipIdx := List.mem_iff_getElem?.mpr ⟨j, by rw [List.getElem?_zipIdx, hq]; show some (q, 0 + j) = _; rw [Nat.zero_add]⟩
  have := List.all_eq_true.mp hk (q, j) hm
  dsimp only at this
  cases hv : (ev_hg hW 83).2[j]? with
  | none => rw [hv] at this; cases this
  | some v =>
    rw [hv] at this
    dsimp only at this
    refine ⟨v, rfl, fun h0 => ?_, fun h1 => ?_, fun h0 h1 => ?_⟩
    · rw [if_pos h0] at this
      simp only [Bool.or_eq_true] at this
      rcases this with (h | h) | h
      · exact Or.inl (Nat.eq_of_beq_eq_true h)
      · exact Or.inr (Or.inl (Nat.eq_of_beq_eq_true h))
      · exact Or.inr (Or.inr (Nat.eq_of_beq_eq_true h))
    · rw [if_neg (by omega), if_pos h1] at this
      simp only [Bool.or_eq_true] at this
      rcases this with (h | h) | h
      · exact Or.inl (Nat.eq_of_beq_eq_true h)
      · exact Or.inr (Or.inl (Nat.eq_of_beq_eq_true h))
      · exact Or.inr (Or.inr (Nat.eq_of_beq_eq_true h))
    · rw [if_neg h0, if_neg h1] at this
      simp only [Bool.and_eq_true] at this
      exact ⟨Nat.eq_of_beq_eq_true this.1, Nat.eq_of_beq_eq_true this.2⟩
set_option maxRecDepth 100000 in
theorem lw_tt_all : ∀ k, k < 133 → 84 ≤ k → (lw_tt.getD k (0, 0)).1 = 53 ∨ (50 ≤ (lw_tt.getD k (0, 0)).1 ∧ (lw_tt.getD k (0, 0)).1 ≤ 52) := by decide +kernel
/-- a world of the reference's, exact -/
theorem lw_ex {D : va_G} {A : Nat → Prop} {c1 : Nat → ClassId} {ads : List Nat} {ws : va_W} {H : Heap} {b m T : Nat} {hW : ev_H} (hb : b < 2) (hm : m < 4) (hB : lw_b D A ads ws H) (hkB : lw_kB hW = true) (hkO : lw_kO hW = true) (h83 : (ev_hg hW 83).1 = 10) (hl83 : (ev_hg hW 83).2.length = 80) (h : lw_RL c1 ads ws b m hW T) : e2_wo D (lw_cA c1 ws b m) A ads [] ws (lw_x ws) H := by
  have n1 : (ev_hg (lw_x ws) 50).1 ≠ 57 := by rw [lw_x_fr ws (by omega) (by omega)]; decide
  have n2 : (ev_hg (lw_x ws) 68).1 ≠ 57 := by rw [lw_x_fr ws (by omega) (by omega)]; decide
  refine lw_mk (lo := 83) (hi := 133) hB (lw_okA hb hm h.2.1) (Nat.le_refl _) (fun k k1 k2 => ?_) (fun k k1 k2 => lw_x_fr ws k1 k2) n1 n2
  obtain ⟨e, he, hr⟩ := h.1 k k1 k2
  refine ⟨e, he, ?_⟩
  by_cases z83 : k = 83
  · subst z83
    rw [h83] at hr
    obtain ⟨vs, rfl, v2, v3⟩ := hr.obj (show 10 < 50 by decide)
    rw [lw_x_83]
    refine Or.inl ⟨by show 10 < 50; decide, vs, rfl, ?_, fun j v hj => ?_⟩
    · rw [v2, hl83]
      unfold lw_o
      rw [List.length_map, List.length_zipIdx, lw_tf_len]
    · obtain ⟨q, hq, rfl⟩ := lw_o_get _ _ hj
      obtain ⟨u, hu, u0, u1, u2⟩ := lw_kO_at hkO hq
      obtain ⟨w, hw, hrel⟩ := v3 j u hu
      refine ⟨w, hw, ?_⟩
      by_cases q0 : q = 0
      · rw [if_pos q0]
        obtain ⟨x, rfl⟩ := hrel.intI (by rcases u0 q0 with z | z | z <;> rw [z] <;> rfl)
        rw [lw_F_c he hw, ← mw_I]
        exact e2_rel.ex ads [] x 0
      · by_cases q1 : q = 1
        · rw [if_neg q0, if_pos q1]
          obtain ⟨x, rfl⟩ := hrel.long (by rcases u1 q1 with z | z | z <;> rw [z] <;> rfl)
          have hj42 : j = 42 := by
            have hjl := (List.getElem?_eq_some_iff.mp hq).1
            rw [lw_tf_len] at hjl
            subst q1
            have key : ∀ j, j < 80 → lw_tf[j]? = some 1 → j = 42 := by decide
            exact key j hjl hq
          subst hj42
          rw [lw_N_c he hw]
          show Value.long x = .long (Int64.ofNat x.toUInt64.toNat)
          rw [ex_long]
        · rw [if_neg q0, if_neg q1]
          obtain ⟨y1, y2⟩ := u2 q0 q1
          obtain ⟨t, aa, bb⟩ := u
          have y1 : t = 2 := y1
          have y2 : aa = q := y2
          subst y1
          subst y2
          exact hrel
  · obtain ⟨t, n, ht⟩ : ∃ t n, lw_tt.getD k (0, 0) = (t, n) := ⟨_, _, rfl⟩
    obtain ⟨s1, s2⟩ := lw_shape hkB (by omega) k2 ht hr (fun tg _ _ ho => lw_op_sh hb hm ho)
    by_cases h53 : t = 53
    · subst h53
      obtain ⟨f, rfl⟩ := s2 rfl
      rw [lw_x_53 ws (by omega) k2 ht]
      exact Or.inr (Or.inr (Or.inl ⟨rfl, n, 0, f, rfl, rfl⟩))
    · obtain ⟨t1, t2, f, rfl⟩ := s1 h53
      rw [lw_x_row ws (by omega) k2 ht h53]
      refine Or.inr (Or.inl ⟨t1, t2, f, by rw [mw_row_R, sy_R_len]; rfl, fun j v hj => ?_⟩)
      have hj2 : j < n := by have := (List.getElem?_eq_some_iff.mp hj).1; rw [mw_row_R, sy_R_len] at this; exact this
      rw [mw_row_R, sy_R_get hj2] at hj
      cases hj
      rw [(lw_R_c he j).1]
      exact e2_rel.ex ads [] (f j) 0
