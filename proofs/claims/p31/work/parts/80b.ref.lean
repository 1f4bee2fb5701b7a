/-! THE REFERENCE'S HALF -/
/-- the letters of the signs that are told -/
def lw_lt (c1 : Nat → ClassId) (ws : va_W) (b : Nat) : Prop := ∀ f g : Nat → Int32, lw_c ws 88 (.inl (c1 0, 2, .inl f)) → lw_c ws 97 (.inl (c1 0, 16, .inl g)) → ∀ j, j < 8 → 2147483648 + j < ev_key (f b) → 2147483649 ≤ ev_key (g (8 * b + j))
/-- acts, done and undone -/
def lw_au (ws : va_W) : Prop := ∀ vs : List Value, lw_c ws 83 (.inr (10, vs)) → ∀ x y : Int32, vs[6]? = some (.int x) → vs[34]? = some (.int y) → ev_key x + ev_key y ≤ 4294967336
def lw_oA (c1 : Nat → ClassId) (ws : va_W) (b m : Nat) : e2_cA := (c1, lw_op c1 ws b m)
def lw_RL (c1 : Nat → ClassId) (ads : List Nat) (ws : va_W) (b m : Nat) (hW : ev_H) (T : Nat) : Prop := lw_h (lw_oA c1 ws b m) ads [lw_T T] ws hW 83 133 ∧ lw_rw c1 ws b m ∧ lw_lt c1 ws b ∧ lw_au ws
theorem lw_RL.same {c1 : Nat → ClassId} {ads : List Nat} {ws ws2 : va_W} {b m : Nat} {hW : ev_H} {T : Nat} (h : lw_RL c1 ads ws b m hW T) (hs : ∀ k, 83 ≤ k → k < 133 → ∀ e, lw_c ws2 k e ↔ lw_c ws k e) : lw_RL c1 ads ws2 b m hW T := by
  obtain ⟨h1, h2, h3, h4⟩ := h
  have hop : ∀ t e, lw_op c1 ws b m t e → lw_op c1 ws2 b m t e := fun t e ht => by
    rcases ht with ht | ⟨z, g, g0, q1, q2, q3⟩ | ⟨z, g, g0, q1, q2, q3⟩ | ⟨z, g, g0, q1, q2, q3⟩
    · exact Or.inl ht
    · exact Or.inr (Or.inl ⟨z, g, g0, q1, (hs _ (by omega) (by omega) _).mpr q2, q3⟩)
    · exact Or.inr (Or.inr (Or.inl ⟨z, g, g0, q1, (hs _ (by omega) (by omega) _).mpr q2, q3⟩))
    · exact Or.inr (Or.inr (Or.inr ⟨z, g, g0, q1, (hs _ (by omega) (by omega) _).mpr q2, q3⟩))
  refine ⟨fun k k1 k2 => ?_, fun C F T c f t => h2 C F T ((hs _ (by omega) (by omega) _).mp c) ((hs _ (by omega) (by omega) _).mp f) ((hs _ (by omega) (by omega) _).mp t), fun f g hf hg => h3 f g ((hs _ (by omega) (by omega) _).mp hf) ((hs _ (by omega) (by omega) _).mp hg), fun vs hv => h4 vs ((hs _ (by omega) (by omega) _).mp hv)⟩
  obtain ⟨e, q1, q2⟩ := h1 k k1 k2
  refine ⟨e, (hs k k1 k2 e).mpr q1, ?_⟩
  rcases q2 with h | ⟨z0, z1, f, z2, z3⟩ | ⟨z0, n, b, f, z1, z2⟩ | ⟨z0, z1, n, b, lo, hi, f, z2, z3, z4⟩ | ⟨z0, z1⟩ | ⟨z0, n, b, lo, hi, c, f, z2, z3, z4⟩ | ⟨z0, f, z2, z3⟩ | ⟨z0, f, z2, z3⟩
  · exact Or.inl h
  · exact Or.inr (Or.inl ⟨z0, z1, f, z2, z3⟩)
  · exact Or.inr (Or.inr (Or.inl ⟨z0, n, b, f, z1, z2⟩))
  · exact Or.inr (Or.inr (Or.inr (Or.inl ⟨z0, z1, n, b, lo, hi, f, z2, z3, z4⟩)))
  · exact Or.inr (Or.inr (Or.inr (Or.inr (Or.inl ⟨z0, fun q => hop _ _ (z1 q)⟩))))
  · exact Or.inr (Or.inr (Or.inr (Or.inr (Or.inr (Or.inl ⟨z0, n, b, lo, hi, c, f, z2, z3, z4⟩)))))
  · exact Or.inr (Or.inr (Or.inr (Or.inr (Or.inr (Or.inr (Or.inl ⟨z0, f, z2, z3⟩))))))
  · exact Or.inr (Or.inr (Or.inr (Or.inr (Or.inr (Or.inr (Or.inr ⟨z0, f, z2, z3⟩))))))
/-- another family of predicates, where the tag asks none of it -/
theorem lw_sw9 {cA cA' : e2_cA} {ads r : List Nat} {tag : Nat} {l : List ev_V} {e : va_E} (h : e2_relC cA ads r tag l e) (h1 : cA'.1 = cA.1) (h2 : 60 ≤ tag → cA.2 tag e → cA'.2 tag e) : e2_relC cA' ads r tag l e := by
  by_cases ht : tag < 60
  · exact lw_sw h ht h1
  · rcases h with ⟨x, -⟩ | ⟨-, x, -⟩ | ⟨x, -⟩ | ⟨-, x, -⟩ | ⟨z0, z1⟩ | ⟨x, -⟩ | ⟨x, -⟩ | ⟨x, -⟩
    · omega
    · omega
    · omega
    · omega
    · exact Or.inr (Or.inr (Or.inr (Or.inr (Or.inl ⟨z0, fun q => h2 z0 (z1 q)⟩))))
    · omega
    · omega
    · omega
/-- closed: what the weak heap has, what the named one has instead -/
def lw_okW (hW : ev_H) (b m : Nat) : Prop :=
  (∃ l, ev_hg hW 83 = (10, l) ∧ l[6]? = some (11, 2147483648, 2147483688) ∧ l[34]? = some (11, 2147483648, 2147483688)) ∧ ev_hg hW 88 = (50, List.replicate 2 (11, 2147483648, 2147483656)) ∧ ev_hg hW 97 = (50, List.replicate 16 (11, 2147483648, 2147483654)) ∧
  ev_hg hW 107 = (60 + 10 * b + m, []) ∧ ev_hg hW 101 = (64 + 10 * b, []) ∧ ev_hg hW 102 = (65 + 10 * b, []) ∧ ev_hg hW 118 = (66, []) ∧ (∀ k, 83 ≤ k → k < 133 → k ≠ 107 → k ≠ 101 → k ≠ 102 → k ≠ 118 → (ev_hg hW k).1 < 60) ∧ (∀ k, k < 133 → ¬ (83 ≤ k ∧ k < 133) → ev_hg hW k = (100 + k, []))
theorem lw_okW.tg {hW : ev_H} {b m : Nat} (hb : b < 2) (hm : m < 4) (hw : lw_okW hW b m) : ∀ k, 83 ≤ k → k < 133 → (ev_hg hW k).1 < 100 := fun k k1 k2 => by
  obtain ⟨-, -, -, t107, t101, t102, t118, tt, -⟩ := hw
  by_cases a1 : k = 107
  · rw [a1, t107]
    show 60 + 10 * b + m < 100
    omega
  by_cases a2 : k = 101
  · rw [a2, t101]
    show 64 + 10 * b < 100
    omega
  by_cases a3 : k = 102
  · rw [a3, t102]
    show 65 + 10 * b < 100
    omega
  by_cases a4 : k = 118
  · rw [a4, t118]
    show 66 < 100
    omega
  have := tt k k1 k2 a1 a2 a3 a4
  omega
def lw_l97 (b : Nat) : List ev_V := (List.range 16).map fun j => if j / 8 = b then (15, 1 + 8 * (j % 8), 2147483654) else (11, 2147483648, 2147483654)
def lw_okN (hN hW : ev_H) (b : Nat) : Prop :=
  (∀ k, 83 ≤ k → k < 133 → k ≠ 83 → k ≠ 88 → k ≠ 97 → ev_hg hN k = ev_hg hW k) ∧ ev_hg hN 83 = (10, ((ev_hg hW 83).2.set 6 (1, 2, 4294967296)).set 34 (1, 3, 4294967296)) ∧ ev_hg hN 88 = (50, (List.replicate 2 (11, 2147483648, 2147483656)).set b (1, 1, 4294967296)) ∧ ev_hg hN 97 = (50, lw_l97 b) ∧ (∀ k, k < 133 → ¬ (83 ≤ k ∧ k < 133) → ev_hg hN k = (100 + k, []))
theorem lw_c.at {c1 : Nat → ClassId} {ws : va_W} {cA : e2_cA} {ads r : List Nat} {k n : Nat} {l : List ev_V} {e : va_E} (hc : lw_c ws k e) (h1 : cA.1 = c1) (h : e2_relC cA ads r 50 l e) (hn : l.length = n) : ∃ f : Nat → Int32, lw_c ws k (.inl (c1 0, n, .inl f)) ∧ e = .inl (c1 0, n, .inl f) ∧ ∀ (j : Nat) (v : ev_V), l[j]? = some v → e2_rel ads r v (.int (f j)) := by
  obtain ⟨f, q1, q2⟩ := h.arr (show 50 ≤ 50 by decide) (show 50 ≤ 52 by decide)
  have q1 : e = .inl (cA.1 0, l.length, .inl f) := q1
  rw [h1, hn] at q1
  subst q1
  exact ⟨f, hc, rfl, q2⟩
theorem lw_RL.nm {c1 : Nat → ClassId} {ads : List Nat} {ws : va_W} {b m : Nat} {hN hW : ev_H} {T : Nat} (hb : b < 2) (hm : m < 4) (hw : lw_okW hW b m) (hn : lw_okN hN hW b) (h : lw_RL c1 ads ws b m hW T) : ∃ sg ac un, 2147483648 ≤ sg ∧ sg ≤ 2147483656 ∧ 2147483648 ≤ ac ∧ ac ≤ 2147483688 ∧ 2147483648 ≤ un ∧ un ≤ 2147483688 ∧ ac + un ≤ 4294967336 ∧ lw_h (lw_cA c1 ws b m) ads [lw_T T, sg, ac, un] ws hN 83 133 := by
  have htg := lw_okW.tg hb hm hw
  obtain ⟨⟨l, o1, o6, o34⟩, o88, o97, -, -, -, -, -, -⟩ := hw
  obtain ⟨n1, n83, n88, n97, -⟩ := hn
  obtain ⟨h1, h2, h3, h4⟩ := h
  obtain ⟨e83, c83, r83⟩ := h1 83 (by omega) (by omega)
  rw [o1] at r83
  obtain ⟨vs, rfl, v2, v3⟩ := r83.obj (show 10 < 50 by decide)
  obtain ⟨w6, w61, x, rfl, x1, x2⟩ := v3 6 _ o6
  obtain ⟨w34, w341, y, rfl, y1, y2⟩ := v3 34 _ o34
  obtain ⟨e88, c88, r88⟩ := h1 88 (by omega) (by omega)
  rw [o88] at r88
  obtain ⟨f, c88', rfl, f2⟩ := c88.at (c1 := c1) rfl r88 (n := 2) rfl
  obtain ⟨e97, c97, r97⟩ := h1 97 (by omega) (by omega)
  rw [o97] at r97
  obtain ⟨g, c97', rfl, g2⟩ := c97.at (c1 := c1) rfl r97 (n := 16) rfl
  have fb : ∀ j, j < 2 → 2147483648 ≤ ev_key (f j) ∧ ev_key (f j) ≤ 2147483656 := fun j hj => by
    obtain ⟨x, hx, u1, u2⟩ := f2 j (11, 2147483648, 2147483656) (by rw [List.getElem?_replicate, if_pos hj])
    injection hx with hx
    rw [hx]
    exact ⟨u1, u2⟩
  have gb : ∀ j, j < 16 → 2147483648 ≤ ev_key (g j) ∧ ev_key (g j) ≤ 2147483654 := fun j hj => by
    obtain ⟨x, hx, u1, u2⟩ := g2 j (11, 2147483648, 2147483654) (by rw [List.getElem?_replicate, if_pos hj])
    injection hx with hx
    rw [hx]
    exact ⟨u1, u2⟩
  have hp : ∃ z, [lw_T T, ev_key (f b), ev_key x, ev_key y] = [lw_T T] ++ z := ⟨_, rfl⟩
  refine ⟨ev_key (f b), ev_key x, ev_key y, (fb b hb).1, (fb b hb).2, x1, x2, y1, y2, h4 vs c83 x y w61 w341, fun k k1 k2 => ?_⟩
  have sw : ∀ {tag : Nat} {l : List ev_V} {e : va_E}, tag < 100 → e2_relC (lw_oA c1 ws b m) ads [lw_T T] tag l e → e2_relC (lw_cA c1 ws b m) ads [lw_T T, ev_key (f b), ev_key x, ev_key y] tag l e := fun ht h => lw_sw9 (h.mono hp) rfl fun _ q => Or.inl ⟨ht, q⟩
  by_cases z83 : k = 83
  · subst z83
    refine ⟨_, c83, ?_⟩
    rw [n83, o1]
    refine Or.inl ⟨by show 10 < 50; decide, vs, rfl, by simp only [List.length_set]; exact v2, fun j v hj => ?_⟩
    rw [List.getElem?_set] at hj
    by_cases j34 : 34 = j
    · subst j34
      rw [if_pos rfl, if_pos (by rw [List.length_set]; exact (List.getElem?_eq_some_iff.mp o34).1)] at hj
      cases hj
      exact ⟨_, w341, y, ev_key y, rfl, rfl, rfl⟩
    · rw [if_neg j34, List.getElem?_set] at hj
      by_cases j6 : 6 = j
      · subst j6
        rw [if_pos rfl, if_pos (List.getElem?_eq_some_iff.mp o6).1] at hj
        cases hj
        exact ⟨_, w61, x, ev_key x, rfl, rfl, rfl⟩
      · rw [if_neg j6] at hj
        obtain ⟨w', u1, u2⟩ := v3 j v hj
        exact ⟨w', u1, u2.mono hp⟩
  by_cases z88 : k = 88
  · subst z88
    refine ⟨_, c88', ?_⟩
    rw [n88]
    refine Or.inr (Or.inl ⟨by show 50 ≤ 50; decide, by show 50 ≤ 52; decide, f, by simp only [List.length_set, List.length_replicate]; rfl, fun j v hj => ?_⟩)
    have hj2 : j < 2 := by have := (List.getElem?_eq_some_iff.mp hj).1; simpa using this
    rw [List.getElem?_set] at hj
    by_cases jb : b = j
    · subst jb
      rw [if_pos rfl, if_pos (by simpa using hj2)] at hj
      cases hj
      exact ⟨f b, ev_key (f b), rfl, rfl, rfl⟩
    · rw [if_neg jb] at hj
      exact (f2 j v hj).mono hp
  by_cases z97 : k = 97
  · subst z97
    refine ⟨_, c97', ?_⟩
    rw [n97]
    refine Or.inr (Or.inl ⟨by show 50 ≤ 50; decide, by show 50 ≤ 52; decide, g, by simp only [lw_l97, List.length_map, List.length_range]; rfl, fun j v hj => ?_⟩)
    have hj2 : j < 16 := by have := (List.getElem?_eq_some_iff.mp hj).1; simpa [lw_l97] using this
    unfold lw_l97 at hj
    rw [List.getElem?_map, List.getElem?_range hj2] at hj
    have hj : (if j / 8 = b then (15, 1 + 8 * (j % 8), 2147483654) else (11, 2147483648, 2147483654) : ev_V) = v := Option.some.inj hj
    obtain ⟨g3, g4⟩ := gb j hj2
    by_cases jb : j / 8 = b
    · rw [if_pos jb] at hj
      subst hj
      refine ⟨g j, ev_key (f b), rfl, ?_, g3, g4, fun hlt => ?_⟩
      · show [lw_T T, ev_key (f b), ev_key x, ev_key y][(1 + 8 * (j % 8)) % 8]? = _
        rw [show (1 + 8 * (j % 8)) % 8 = 1 by omega]
        rfl
      · have hlt : 2147483648 + (1 + 8 * (j % 8)) / 8 < ev_key (f b) := hlt
        have := h3 f g c88' c97' (j % 8) (by omega) (by omega)
        rw [show 8 * b + j % 8 = j by omega] at this
        exact this
    · rw [if_neg jb] at hj
      subst hj
      exact ⟨g j, rfl, g3, g4⟩
  · obtain ⟨e, q1, q2⟩ := h1 k k1 k2
    refine ⟨e, q1, ?_⟩
    rw [n1 k k1 k2 z83 z88 z97]
    exact sw (htg k k1 k2) q2
theorem lw_inj {c : ClassId} {n : Nat} {f g : Nat → Int32} (h : (Sum.inl (c, n, Sum.inl f) : va_E) = Sum.inl (c, n, Sum.inl g)) : f = g := by
  injection h with h
  injection h with _ h
  injection h with _ h
  injection h
/-- behind a call of the reference -/
theorem lw_RL.bk {D : va_G} {A : Nat → Prop} {c1 : Nat → ClassId} {ads r : List Nat} {ws ws2 : va_W} {H : Heap} {b m T sg ac un : Nat} {hX hW : ev_H} {E : e2_E} (hb : b < 2) (hm : m < 4) (hw : lw_okW hW b m) (hX2 : e2_wo D (lw_cA c1 ws b m) A ads r ws2 hX H) (hs : e2_sat r E) (hr : r = [lw_T T, sg, ac, un]) (hle : e2_hle E 8 hW hX = true) (hid : e2_idh 1 8 hW = true) (hrw : lw_rw c1 ws b m) (x88 : ev_hg hX 88 = (50, (List.replicate 2 (11, 2147483648, 2147483656)).set b (1, 1, 4294967296))) (x97 : ev_hg hX 97 = (50, lw_l97 b)) (hau : lw_au ws2) : lw_RL c1 ads ws2 b m hW T := by
  have w1 := (hX2.le hs hle).take (n := 1) hid
  have hr1 : r.take 1 = [lw_T T] := by rw [hr]; rfl
  rw [hr1] at w1
  have hh := lw_half w1 83 133 (Nat.le_refl _)
  obtain ⟨-, -, -, t107, t101, t102, t118, tt, -⟩ := hw
  have hop : ∀ k tag, 83 ≤ k → k < 133 → ev_hg hW k = (tag, []) → 60 ≤ tag → tag < 100 → ∀ e, lw_c ws2 k e → lw_op c1 ws b m tag e := fun k tag k1 k2 ht t1 t2 e he => by
    obtain ⟨e', q1, q2⟩ := hh k k1 k2
    have := he.un q1
    subst this
    rw [ht] at q2
    have q3 : (lw_cA c1 ws b m).2 tag e := by
      rcases q2 with ⟨x, -⟩ | ⟨-, x, -⟩ | ⟨x, -⟩ | ⟨-, x, -⟩ | ⟨-, x⟩ | ⟨x, -⟩ | ⟨x, -⟩ | ⟨x, -⟩
      · have x : tag < 50 := x
        omega
      · have x : tag ≤ 52 := x
        omega
      · have x : tag = 53 := x
        omega
      · have x : tag ≤ 56 := x
        omega
      · exact x (by show tag < 999; omega)
      · have x : tag = 57 := x
        omega
      · have x : tag = 58 := x
        omega
      · have x : tag = 59 := x
        omega
    rcases q3 with ⟨-, x⟩ | ⟨x, -⟩
    · exact x
    · omega
  have h107 : ∀ e, lw_c ws2 107 e → lw_rl c1 ws 107 1120 e := fun e he => by
    rcases hop 107 _ (by omega) (by omega) t107 (by omega) (by omega) e he with ⟨z, -⟩ | ⟨-, h⟩ | ⟨z, -⟩ | ⟨z, -⟩
    · omega
    · exact h
    · omega
    · omega
  have h101 : ∀ e, lw_c ws2 101 e → lw_rl c1 ws 101 4 e := fun e he => by
    rcases hop 101 _ (by omega) (by omega) t101 (by omega) (by omega) e he with ⟨z, -⟩ | ⟨z, -⟩ | ⟨-, h⟩ | ⟨z, -⟩
    · omega
    · omega
    · exact h
    · omega
  have h102 : ∀ e, lw_c ws2 102 e → lw_rl c1 ws 102 4 e := fun e he => by
    rcases hop 102 _ (by omega) (by omega) t102 (by omega) (by omega) e he with ⟨z, -⟩ | ⟨z, -⟩ | ⟨z, -⟩ | ⟨-, h⟩
    · omega
    · omega
    · omega
    · exact h
  have h118 : ∀ e, lw_c ws2 118 e → ∃ g, e = .inl (c1 0, 1066, .inl g) ∧ rf_was g := fun e he => by
    rcases hop 118 _ (by omega) (by omega) t118 (by omega) (by omega) e he with ⟨-, h⟩ | ⟨z, -⟩ | ⟨z, -⟩ | ⟨z, -⟩
    · exact h
    · omega
    · omega
    · omega
  refine ⟨fun k k1 k2 => ?_, fun C F T2 hC hF hT r0 hr0 hbit => ?_, fun f g hf hg j hj hlt => ?_, hau⟩
  · obtain ⟨e, q1, q2⟩ := hh k k1 k2
    refine ⟨e, q1, ?_⟩
    refine lw_sw9 q2 rfl fun h60 _ => ?_
    by_cases a1 : k = 107
    · subst a1
      rw [t107]
      obtain ⟨g, g0, u1, u2, u3⟩ := h107 e q1
      exact Or.inr (Or.inl ⟨rfl, g, g, u1, by rw [u1] at q1; exact q1, fun _ _ => rfl⟩)
    by_cases a2 : k = 101
    · subst a2
      rw [t101]
      obtain ⟨g, g0, u1, u2, u3⟩ := h101 e q1
      exact Or.inr (Or.inr (Or.inl ⟨rfl, g, g, u1, by rw [u1] at q1; exact q1, fun _ _ => rfl⟩))
    by_cases a3 : k = 102
    · subst a3
      rw [t102]
      obtain ⟨g, g0, u1, u2, u3⟩ := h102 e q1
      exact Or.inr (Or.inr (Or.inr ⟨rfl, g, g, u1, by rw [u1] at q1; exact q1, fun _ _ => rfl⟩))
    by_cases a4 : k = 118
    · subst a4
      rw [t118]
      exact Or.inl ⟨rfl, h118 e q1⟩
    have := tt k k1 k2 a1 a2 a3 a4
    omega
  · obtain ⟨C1, C0, u1, u2, u3⟩ := h107 _ hC
    obtain ⟨F1, F0, p1, p2, p3⟩ := h101 _ hF
    obtain ⟨T1, T0, z1, z2, z3⟩ := h102 _ hT
    have u1 := lw_inj u1
    have p1 := lw_inj p1
    have z1 := lw_inj z1
    subst u1
    subst p1
    subst z1
    obtain ⟨fr, L, y1, y2, y3, y4, y5⟩ := hrw C0 F0 T0 u2 p2 z2 r0 hr0 hbit
    exact ⟨fr, L, (p3 _ (by omega)).trans y1, (z3 _ (by omega)).trans y2, y3, y4, rf_W_cg (fun i hi => u3 _ (by omega)) y5⟩
  · have hx := lw_half hX2 83 133 (Nat.le_refl _)
    obtain ⟨e88, c88, r88⟩ := hx 88 (by omega) (by omega)
    obtain ⟨e97, c97, r97⟩ := hx 97 (by omega) (by omega)
    have := hf.un c88
    subst this
    have := hg.un c97
    subst this
    rw [x88] at r88
    rw [x97] at r97
    obtain ⟨f', q1, q2⟩ := r88.arr (show 50 ≤ 50 by decide) (show 50 ≤ 52 by decide)
    obtain ⟨g', q3, q4⟩ := r97.arr (show 50 ≤ 50 by decide) (show 50 ≤ 52 by decide)
    have q1 := lw_inj (c := c1 0) (n := 2) (f := f) (g := f') (by rw [q1]; simp only [List.length_set, List.length_replicate]; rfl)
    have q3 := lw_inj (c := c1 0) (n := 16) (f := g) (g := g') (by rw [q3]; simp only [lw_l97, List.length_map, List.length_range]; rfl)
    subst q1
    subst q3
    obtain ⟨x, kk, y1, y2, y3⟩ := q2 b (1, 1, 4294967296) (by rw [List.getElem?_set, if_pos rfl, if_pos (by simpa using hb)])
    obtain ⟨x', kk', v1, v2, v3, v4, v5⟩ := q4 (8 * b + j) (15, 1 + 8 * j, 2147483654) (by
      unfold lw_l97
      rw [List.getElem?_map, List.getElem?_range (by omega)]
      show some (if (8 * b + j) / 8 = b then (15, 1 + 8 * ((8 * b + j) % 8), 2147483654) else (11, 2147483648, 2147483654) : ev_V) = _
      rw [if_pos (by omega), show (8 * b + j) % 8 = j by omega])
    injection y1 with y1
    injection v1 with v1
    have y2 : r[1]? = some kk := y2
    have v2 : r[(1 + 8 * j) % 8]? = some kk' := v2
    rw [show (1 + 8 * j) % 8 = 1 by omega, y2] at v2
    have v2 := Option.some.inj v2
    have y3 : ev_key x + 4294967296 = kk + 4294967296 := y3
    have v5 : 2147483648 + (1 + 8 * j) / 8 < kk' → 2147483649 ≤ ev_key x' := v5
    rw [v1]
    refine v5 ?_
    rw [← v2]
    rw [y1] at hlt
    omega
