/-! THE STATE AT THE START: behind both constructors -/
def lw_cvC (c : ev_C) : ev_C := if c.1 = 53 then (53, [(0, c.2.length, 0)]) else c
theorem lw_cvV {ads r : List Nat} {v : ev_V} {w : Value} (h : ev_rel ads v w) (hv : v.1 = 0 ∨ v.1 = 2 ∨ v.1 = 3 ∨ v.1 = 4) : e2_rel ads r v w := by
  obtain ⟨t, a, b⟩ := v
  have hv : t = 0 ∨ t = 2 ∨ t = 3 ∨ t = 4 := hv
  rcases h with ⟨h0, h1⟩ | ⟨h0, x, h1, -⟩ | ⟨h0, q, h1, h2⟩ | ⟨h0, h1⟩ | ⟨h0, h1⟩ | ⟨h0, h1⟩
  · have h0 : t = 0 := h0
    subst h0
    exact h1
  · have h0 : t = 1 := h0
    omega
  · have h0 : t = 2 := h0
    subst h0
    exact ⟨q, h1, h2⟩
  · have h0 : t = 3 := h0
    subst h0
    exact h1
  · have h0 : t = 4 := h0
    subst h0
    exact h1
  · have h0 : t = 7 := h0
    omega
theorem lw_cvK {c1 : Nat → ClassId} {cA : e2_cA} {ads r : List Nat} {c : ev_C} {e : va_E} (h : ev_relC (lw_eA c1) ads c.1 c.2 e) (h53 : c.1 ≤ 53) (hv : ∀ v ∈ c.2, v.1 = 0 ∨ v.1 = 2 ∨ v.1 = 3 ∨ v.1 = 4) (hc : cA.1 = c1) : e2_relC cA ads r (lw_cvC c).1 (lw_cvC c).2 e := by
  subst hc
  obtain ⟨tag, l⟩ := c
  have h53 : tag ≤ 53 := h53
  have hv : ∀ v ∈ l, v.1 = 0 ∨ v.1 = 2 ∨ v.1 = 3 ∨ v.1 = 4 := hv
  rcases h with ⟨h0, vs, h1, h2, h3⟩ | ⟨h0, h1, f, h2, h3⟩ | ⟨h0, f, h1⟩ | ⟨h0, -⟩
  · have h0 : tag < 50 := h0
    have e1 : lw_cvC (tag, l) = (tag, l) := if_neg (show ¬ tag = 53 by omega)
    rw [e1]
    exact Or.inl ⟨h0, vs, h1, h2, fun j v hj => by
      obtain ⟨w, q1, q2⟩ := h3 j v hj
      exact ⟨w, q1, lw_cvV q2 (hv v (List.mem_of_getElem? hj))⟩⟩
  · have h0 : 50 ≤ tag := h0
    have h1 : tag ≤ 52 := h1
    have e1 : lw_cvC (tag, l) = (tag, l) := if_neg (show ¬ tag = 53 by omega)
    rw [e1]
    exact Or.inr (Or.inl ⟨h0, h1, f, h2, fun j v hj => lw_cvV (h3 j v hj) (hv v (List.mem_of_getElem? hj))⟩)
  · have h0 : tag = 53 := h0
    subst h0
    exact Or.inr (Or.inr (Or.inl ⟨rfl, l.length, 0, f, rfl, h1⟩))
  · have h0 : 54 ≤ tag := h0
    omega
noncomputable def lw_h0B : Bool := (List.range 133).all fun k => Nat.ble (ev_hg ev_h0 k).1 53 && (ev_hg ev_h0 k).2.all fun v => Nat.beq v.1 0 || (Nat.beq v.1 2 || (Nat.beq v.1 3 || Nat.beq v.1 4))
set_option maxRecDepth 1000000 in
theorem lw_h0B_ok : lw_h0B = true := by decide +kernel
theorem lw_cell0 {D : va_G} {A : Nat → Prop} {c1 : Nat → ClassId} {ads r : List Nat} {ws : va_W} {H : Heap} {cA : e2_cA} (hw : ev_wo D (lw_eA c1) A ads ws 133 ev_h0 H) (hc : cA.1 = c1) {k : Nat} (hk : k < 133) : ∃ e, lw_c ws k e ∧ e2_relC cA ads r (lw_cvC (ev_hg ev_h0 k)).1 (lw_cvC (ev_hg ev_h0 k)).2 e := by
  obtain ⟨a, e, q1, q2⟩ := hw.2.2.2.1 k hk
  have hB := List.all_eq_true.mp lw_h0B_ok k (List.mem_range.mpr hk)
  simp only [Bool.and_eq_true, List.all_eq_true, Bool.or_eq_true] at hB
  obtain ⟨b1, b2⟩ := hB
  refine ⟨e, ⟨a, q1⟩, lw_cvK q2 (Nat.le_of_ble_eq_true b1) (fun v hv => ?_) hc⟩
  rcases b2 v hv with h | h | h | h
  · exact Or.inl (Nat.eq_of_beq_eq_true h)
  · exact Or.inr (Or.inl (Nat.eq_of_beq_eq_true h))
  · exact Or.inr (Or.inr (Or.inl (Nat.eq_of_beq_eq_true h)))
  · exact Or.inr (Or.inr (Or.inr (Nat.eq_of_beq_eq_true h)))
/-- a row of known elements, less known -/
noncomputable def lw_ucl (g c : ev_C) : Bool := Nat.beq g.1 (c.1 + 4) && (Nat.ble 50 c.1 && (Nat.ble c.1 52 && (ev_leq g.2 [(0, c.2.length, (g.2.getD 0 (0, 0, 0)).2.2), (11, (g.2.getD 1 (0, 0, 0)).2.1, (g.2.getD 1 (0, 0, 0)).2.2)] && c.2.all fun v => Nat.beq v.1 0 && (Nat.ble (g.2.getD 1 (0, 0, 0)).2.1 ((v.2.1 + 2147483648) % 4294967296) && Nat.ble ((v.2.1 + 2147483648) % 4294967296) (g.2.getD 1 (0, 0, 0)).2.2))))
theorem lw_ucl_ok {cA : e2_cA} {ads r : List Nat} {g c : ev_C} {e : va_E} (h : e2_relC cA ads r c.1 c.2 e) (hg : lw_ucl g c = true) : e2_relC cA ads r g.1 g.2 e := by
  unfold lw_ucl at hg
  simp only [Bool.and_eq_true, List.all_eq_true] at hg
  obtain ⟨h1, h2, h3, h4, h5⟩ := hg
  obtain ⟨t, l⟩ := g
  obtain ⟨ct, cl⟩ := c
  have h1 : t = ct + 4 := Nat.eq_of_beq_eq_true h1
  have h2 : 50 ≤ ct := Nat.le_of_ble_eq_true h2
  have h3 : ct ≤ 52 := Nat.le_of_ble_eq_true h3
  have h4 := ev_leq_ok h4
  obtain ⟨f, f1, f2⟩ := h.arr h2 h3
  generalize (((t, l) : ev_C).2.getD 0 (0, 0, 0)).2.2 = b at h4
  generalize (((t, l) : ev_C).2.getD 1 (0, 0, 0)).2.1 = lo at h4 h5
  generalize (((t, l) : ev_C).2.getD 1 (0, 0, 0)).2.2 = hi at h4 h5
  have h4 : l = [(0, cl.length, b), (11, lo, hi)] := h4
  subst h1
  subst h4
  refine Or.inr (Or.inr (Or.inr (Or.inl ⟨by show 54 ≤ ct + 4; omega, by show ct + 4 ≤ 56; omega, cl.length, b, lo, hi, f, rfl, ?_, fun j hj => ?_⟩)))
  · rw [f1]
    show Sum.inl (cA.1 (ct - 50), cl.length, Sum.inl f) = Sum.inl (cA.1 (ct + 4 - 54), cl.length, Sum.inl f)
    rw [show ct + 4 - 54 = ct - 50 by omega]
  · have hv := f2 j cl[j] (List.getElem?_eq_getElem hj)
    have h5 := h5 cl[j] (List.getElem_mem hj)
    generalize cl[j] = v at hv h5
    obtain ⟨vt, va, vb⟩ := v
    obtain ⟨k1, k2, k3⟩ := h5
    have k1 : vt = 0 := Nat.eq_of_beq_eq_true k1
    subst k1
    have hv : Value.int (f j) = .int (ev_i va) := hv
    injection hv with hv
    have k2 := Nat.le_of_ble_eq_true k2
    have k3 := Nat.le_of_ble_eq_true k3
    rw [hv, ev_key_of]
    exact ⟨k2, k3⟩
noncomputable def lw_cs (g c : ev_C) : Bool := e2_cle [] g c || lw_ucl g c
theorem lw_cs_ok {cA : e2_cA} {ads : List Nat} {g c : ev_C} {e : va_E} (h : e2_relC cA ads [] c.1 c.2 e) (hg : lw_cs g c = true) : e2_relC cA ads [] g.1 g.2 e := by
  unfold lw_cs at hg
  rw [Bool.or_eq_true] at hg
  rcases hg with hg | hg
  · exact h.le lw_sat0 hg
  · exact lw_ucl_ok h hg
theorem lw_k0 : ev_key (ev_i 0) = 2147483648 := by decide +kernel
theorem lw_tm0 {cA : e2_cA} {ads : List Nat} {tag j : Nat} {l : List ev_V} {e : va_E} (ht : tag < 50) (hj : l[j]? = some (1, 0, 4294967296)) (h : e2_relC cA ads [] tag (l.set j (0, 0, 0)) e) : e2_relC cA ads [lw_T 0] tag l e := by
  obtain ⟨vs, rfl, v2, v3⟩ := h.obj ht
  refine Or.inl ⟨ht, vs, rfl, by rw [v2, List.length_set], fun i v hi => ?_⟩
  by_cases hij : j = i
  · subst hij
    rw [hj] at hi
    cases hi
    obtain ⟨w, w1, w2⟩ := v3 j (0, 0, 0) (by rw [List.getElem?_set, if_pos rfl, if_pos (List.getElem?_eq_some_iff.mp hj).1])
    refine ⟨w, w1, ev_i 0, lw_T 0, w2, rfl, ?_⟩
    show ev_key (ev_i 0) + 4294967296 = 2147483648 + 0 + 4294967296
    rw [lw_k0]
  · obtain ⟨w, w1, w2⟩ := v3 i v (by rw [List.getElem?_set, if_neg hij]; exact hi)
    exact ⟨w, w1, w2.mono ⟨[lw_T 0], rfl⟩⟩
theorem lw_rowz {cA : e2_cA} {ads r : List Nat} {c : ev_C} {n : Nat} {e : va_E} (h : e2_relC cA ads r c.1 c.2 e) (hz : (Nat.beq c.1 50 && Nat.beq c.2.length n) = true) : ∃ f : Nat → Int32, e = .inl (cA.1 0, n, .inl f) ∧ ∀ j, c.2[j]? = some (0, 0, 0) → f j = ev_i 0 := by
  rw [Bool.and_eq_true] at hz
  obtain ⟨h1, h2⟩ := hz
  obtain ⟨t, l⟩ := c
  have g1 : t = 50 := Nat.eq_of_beq_eq_true h1
  have g2 : l.length = n := Nat.eq_of_beq_eq_true h2
  clear h1 h2
  subst g1
  subst g2
  obtain ⟨f, f1, f2⟩ := h.arr (show 50 ≤ 50 by decide) (show 50 ≤ 52 by decide)
  refine ⟨f, f1, fun j hj => ?_⟩
  have hv : Value.int (f j) = .int (ev_i 0) := f2 j (0, 0, 0) hj
  injection hv
theorem lw_objz {cA : e2_cA} {ads r : List Nat} {c : ev_C} {t j : Nat} {e : va_E} {vs : List Value} (h : e2_relC cA ads r c.1 c.2 e) (ht : Nat.beq c.1 10 = true) (he : (Sum.inr (t, vs) : va_E) = e) (hj : c.2[j]? = some (0, 0, 0)) : vs[j]? = some (.int (ev_i 0)) := by
  obtain ⟨ct, l⟩ := c
  have ht : ct = 10 := Nat.eq_of_beq_eq_true ht
  subst ht
  obtain ⟨vs', rfl, v2, v3⟩ := h.obj (show 10 < 50 by decide)
  injection he with he
  injection he with _ he
  subst he
  obtain ⟨w, w1, w2⟩ := v3 j _ hj
  have w2 : w = .int (ev_i 0) := w2
  rw [w1, w2]
set_option maxRecDepth 1000000 in
theorem lw_z107 : (Nat.beq (lw_cvC (ev_hg ev_h0 107)).1 50 && Nat.beq (lw_cvC (ev_hg ev_h0 107)).2.length 1120) = true := by decide +kernel
set_option maxRecDepth 1000000 in
theorem lw_z101 : (Nat.beq (lw_cvC (ev_hg ev_h0 101)).1 50 && Nat.beq (lw_cvC (ev_hg ev_h0 101)).2.length 4) = true := by decide +kernel
set_option maxRecDepth 1000000 in
theorem lw_z102 : (Nat.beq (lw_cvC (ev_hg ev_h0 102)).1 50 && Nat.beq (lw_cvC (ev_hg ev_h0 102)).2.length 4) = true := by decide +kernel
set_option maxRecDepth 1000000 in
theorem lw_z118 : (Nat.beq (lw_cvC (ev_hg ev_h0 118)).1 50 && Nat.beq (lw_cvC (ev_hg ev_h0 118)).2.length 1066) = true := by decide +kernel
set_option maxRecDepth 1000000 in
theorem lw_z88 : (Nat.beq (lw_cvC (ev_hg ev_h0 88)).1 50 && Nat.beq (lw_cvC (ev_hg ev_h0 88)).2.length 2) = true := by decide +kernel
set_option maxRecDepth 1000000 in
theorem lw_z83 : Nat.beq (lw_cvC (ev_hg ev_h0 83)).1 10 = true ∧ (lw_cvC (ev_hg ev_h0 83)).2[6]? = some (0, 0, 0) ∧ (lw_cvC (ev_hg ev_h0 83)).2[34]? = some (0, 0, 0) ∧ (lw_cvC (ev_hg ev_h0 88)).2[0]? = some (0, 0, 0) := by decide +kernel
set_option maxRecDepth 1000000 in
theorem lw_z118e : ∀ a, a < 41 → (lw_cvC (ev_hg ev_h0 118)).2[26 * a + 25]? = some (0, 0, 0) := by decide +kernel
/-- closed: what the first heaps of the state must be -/
def lw_s0 (hC1 hR0 : ev_H) : Prop :=
  (∀ k, k < 83 → k ≠ 77 → lw_cs (ev_hg hC1 k) (lw_cvC (ev_hg ev_h0 k)) = true) ∧ (∃ l, ev_hg hC1 77 = (1, l) ∧ l[3]? = some (1, 0, 4294967296) ∧ lw_cs (1, l.set 3 (0, 0, 0)) (lw_cvC (ev_hg ev_h0 77)) = true) ∧
  (∀ k, 84 ≤ k → k < 133 → k ≠ 107 → k ≠ 101 → k ≠ 102 → k ≠ 118 → lw_cs (ev_hg hR0 k) (lw_cvC (ev_hg ev_h0 k)) = true) ∧ ∃ l, ev_hg hR0 83 = (10, l) ∧ l[22]? = some (1, 0, 4294967296) ∧ lw_cs (10, l.set 22 (0, 0, 0)) (lw_cvC (ev_hg ev_h0 83)) = true
theorem lw_St0 {D : va_G} {A : Nat → Prop} {c1 : Nat → ClassId} {ads : List Nat} {ws : va_W} {H : Heap} {hC : Nat → ev_H} {hR : Nat → Nat → ev_H} (hw : ev_wo D (lw_eA c1) A ads ws 133 ev_h0 H) (hok : lw_okW (hR 0 0) 0 0) (hs : lw_s0 (hC 1) (hR 0 0)) : lw_St hC hR D A c1 ads 0 0 ws H := by
  obtain ⟨s1, ⟨l77, s2, s3, s4⟩, s5, ⟨l83, s6, s7, s8⟩⟩ := hs
  obtain ⟨-, -, -, t107, t101, t102, t118, tt, -⟩ := id hok
  have hB : lw_b D A ads ws H := ⟨hw.1, hw.2.1, hw.2.2.2.2.1, hw.2.2.2.2.2⟩
  refine ⟨hB, ⟨1, Or.inl rfl, fun k _ k2 => ?_⟩, 0, 0, by omega, by omega, fun k k1 k2 => ?_, fun C F T _ _ _ r hr hbit => ?_, fun f g hf hg j hj hlt => ?_, fun vs hv x y hx hy => ?_⟩
  · by_cases h7 : k = 77
    · subst h7
      obtain ⟨e, q1, q2⟩ := lw_cell0 (cA := lw_no c1) (r := []) hw rfl (show 77 < 133 by omega)
      refine ⟨e, q1, ?_⟩
      rw [s2]
      exact lw_tm0 (show 1 < 50 by decide) s3 (lw_cs_ok (g := (1, l77.set 3 (0, 0, 0))) q2 s4)
    · obtain ⟨e, q1, q2⟩ := lw_cell0 (cA := lw_no c1) (r := []) hw rfl (show k < 133 by omega)
      exact ⟨e, q1, (lw_cs_ok q2 (s1 k k2 h7)).mono ⟨[lw_T 0], rfl⟩⟩
  · by_cases z83 : k = 83
    · subst z83
      obtain ⟨e, q1, q2⟩ := lw_cell0 (cA := lw_oA c1 ws 0 0) (r := []) hw rfl (show 83 < 133 by omega)
      refine ⟨e, q1, ?_⟩
      rw [s6]
      exact lw_tm0 (show 10 < 50 by decide) s7 (lw_cs_ok (g := (10, l83.set 22 (0, 0, 0))) q2 s8)
    obtain ⟨e, q1, q2⟩ := lw_cell0 (cA := lw_oA c1 ws 0 0) (r := []) hw rfl k2
    refine ⟨e, q1, ?_⟩
    by_cases a1 : k = 107
    · subst a1
      obtain ⟨f, rfl, -⟩ := lw_rowz q2 lw_z107
      rw [t107]
      exact Or.inr (Or.inr (Or.inr (Or.inr (Or.inl ⟨by show 60 ≤ 60 + 10 * 0 + 0; omega, fun _ => Or.inr (Or.inl ⟨rfl, f, f, rfl, q1, fun _ _ => rfl⟩)⟩))))
    by_cases a2 : k = 101
    · subst a2
      obtain ⟨f, rfl, -⟩ := lw_rowz q2 lw_z101
      rw [t101]
      exact Or.inr (Or.inr (Or.inr (Or.inr (Or.inl ⟨by show 60 ≤ 64 + 10 * 0; omega, fun _ => Or.inr (Or.inr (Or.inl ⟨rfl, f, f, rfl, q1, fun _ _ => rfl⟩))⟩))))
    by_cases a3 : k = 102
    · subst a3
      obtain ⟨f, rfl, -⟩ := lw_rowz q2 lw_z102
      rw [t102]
      exact Or.inr (Or.inr (Or.inr (Or.inr (Or.inl ⟨by show 60 ≤ 65 + 10 * 0; omega, fun _ => Or.inr (Or.inr (Or.inr ⟨rfl, f, f, rfl, q1, fun _ _ => rfl⟩))⟩))))
    by_cases a4 : k = 118
    · subst a4
      obtain ⟨f, rfl, f2⟩ := lw_rowz q2 lw_z118
      rw [t118]
      refine Or.inr (Or.inr (Or.inr (Or.inr (Or.inl ⟨by show 60 ≤ 66; decide, fun _ => Or.inl ⟨rfl, f, rfl, fun a ha => ?_⟩⟩))))
      rw [f2 _ (lw_z118e a ha), lw_k0]
      exact ⟨Nat.le_refl _, by decide⟩
    exact (lw_cs_ok q2 (s5 k (by omega) k2 a1 a2 a3 a4)).mono ⟨[lw_T 0], rfl⟩
  · rw [Nat.zero_div] at hbit
    exact absurd hbit (by decide)
  · obtain ⟨e, q1, q2⟩ := lw_cell0 (cA := lw_no c1) (r := []) hw rfl (show 88 < 133 by omega)
    obtain ⟨f', rfl, f2⟩ := lw_rowz q2 lw_z88
    have := lw_inj (hf.un q1)
    subst this
    rw [f2 0 lw_z83.2.2.2, lw_k0] at hlt
    omega
  · obtain ⟨e, q1, q2⟩ := lw_cell0 (cA := lw_no c1) (r := []) hw rfl (show 83 < 133 by omega)
    have h6 := lw_objz q2 lw_z83.1 (hv.un q1) lw_z83.2.1
    have h34 := lw_objz q2 lw_z83.1 (hv.un q1) lw_z83.2.2.1
    rw [h6] at hx
    rw [h34] at hy
    cases hx
    cases hy
    rw [lw_k0]
    omega
