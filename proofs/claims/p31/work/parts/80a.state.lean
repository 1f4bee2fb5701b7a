/-! THE LAW'S STATE between two calls: both halves of the world, each by itself -/
def lw_b (D : va_G) (A : Nat → Prop) (ads : List Nat) (ws : va_W) (H : Heap) : Prop := ws.map Prod.fst = ads ∧ ws.length = 133 ∧ va_P D en_classes ws H ∧ va_D A ws
def lw_c (ws : va_W) (k : Nat) (e : va_E) : Prop := ∃ a, ws[k]? = some (a, e)
theorem lw_c.un {ws : va_W} {k : Nat} {e e' : va_E} (h : lw_c ws k e) (h' : lw_c ws k e') : e = e' := by
  obtain ⟨a, h⟩ := h
  obtain ⟨a', h'⟩ := h'
  rw [h] at h'
  cases h'
  rfl
def lw_h (cA : e2_cA) (ads r : List Nat) (ws : va_W) (h : ev_H) (lo hi : Nat) : Prop := ∀ k, lo ≤ k → k < hi → ∃ e, lw_c ws k e ∧ e2_relC cA ads r (ev_hg h k).1 (ev_hg h k).2 e
def lw_rl (c1 : Nat → ClassId) (ws : va_W) (k n : Nat) (e : va_E) : Prop := ∃ g g0 : Nat → Int32, e = .inl (c1 0, n, .inl g) ∧ lw_c ws k (.inl (c1 0, n, .inl g0)) ∧ ∀ j, j < n → g j = g0 j
def lw_op (c1 : Nat → ClassId) (ws : va_W) (b m t : Nat) (e : va_E) : Prop :=
  (t = 66 ∧ ∃ g, e = .inl (c1 0, 1066, .inl g) ∧ rf_was g) ∨ (t = 60 + 10 * b + m ∧ lw_rl c1 ws 107 1120 e) ∨ (t = 64 + 10 * b ∧ lw_rl c1 ws 101 4 e) ∨ (t = 65 + 10 * b ∧ lw_rl c1 ws 102 4 e)
def lw_cA (c1 : Nat → ClassId) (ws : va_W) (b m : Nat) : e2_cA := (c1, fun t e => (t < 100 ∧ lw_op c1 ws b m t e) ∨ (100 ≤ t ∧ lw_c ws (t - 100) e))
/-- the rules of a bank, those whose bits m has, stand in its own half of the code -/
def lw_rw (c1 : Nat → ClassId) (ws : va_W) (b m : Nat) : Prop := ∀ C F T : Nat → Int32, lw_c ws 107 (.inl (c1 0, 1120, .inl C)) → lw_c ws 101 (.inl (c1 0, 4, .inl F)) → lw_c ws 102 (.inl (c1 0, 4, .inl T)) → ∀ r, r < 2 → m / 2 ^ r % 2 = 1 → ∃ fr L : Nat, F (2 * b + r) = ev_i fr ∧ T (2 * b + r) = ev_i (fr + L) ∧ 560 * b ≤ fr ∧ fr + L ≤ 560 * b + 560 ∧ rf_W C fr L
theorem lw_okA {c1 : Nat → ClassId} {ws : va_W} {b m : Nat} (hb : b < 2) (hm : m < 4) (hr : lw_rw c1 ws b m) : e2_okA (lw_cA c1 ws b m) := by
  have hop : ∀ t e, t < 100 → (lw_cA c1 ws b m).2 t e → lw_op c1 ws b m t e := fun t e ht h => by
    rcases h with ⟨-, h⟩ | ⟨h, -⟩
    · exact h
    · omega
  refine ⟨fun t e t1 t2 he => ?_, fun b2 r m2 hb2 hr2 hm2 hbit C F T eC eF eT => ?_, fun g => ⟨fun he => ?_, fun hg => Or.inl ⟨by omega, Or.inl ⟨rfl, g, rfl, hg⟩⟩⟩⟩
  · rcases hop t e (by omega) he with ⟨rfl, g, rfl, hg⟩ | ⟨rfl, g, g0, rfl, h0, hg⟩ | ⟨rfl, g, g0, rfl, h0, hg⟩ | ⟨rfl, g, g0, rfl, h0, hg⟩
    · refine ⟨g, rfl, fun g' hg' => Or.inl ⟨by omega, Or.inl ⟨rfl, g', rfl, fun a ha => ?_⟩⟩⟩
      rw [hg' _ (by show 26 * a + 25 < 1066; omega)]
      exact hg a ha
    · have hn := rf_n_c b hb m hm
      rw [hn]
      exact ⟨g, rfl, fun g' hg' => Or.inl ⟨by omega, Or.inr (Or.inl ⟨rfl, g', g0, rfl, h0, fun j hj => (hg' j hj).trans (hg j hj)⟩)⟩⟩
    · rw [(rf_n_f b hb).1]
      exact ⟨g, rfl, fun g' hg' => Or.inl ⟨by omega, Or.inr (Or.inr (Or.inl ⟨rfl, g', g0, rfl, h0, fun j hj => (hg' j hj).trans (hg j hj)⟩))⟩⟩
    · rw [(rf_n_f b hb).2]
      exact ⟨g, rfl, fun g' hg' => Or.inl ⟨by omega, Or.inr (Or.inr (Or.inr ⟨rfl, g', g0, rfl, h0, fun j hj => (hg' j hj).trans (hg j hj)⟩))⟩⟩
  · have inj : ∀ {n : Nat} {f g : Nat → Int32}, (Sum.inl (c1 0, n, Sum.inl f) : va_E) = Sum.inl (c1 0, n, Sum.inl g) → f = g := fun h => by
      injection h with h
      injection h with _ h
      injection h with _ h
      injection h
    have hC : b2 = b ∧ m2 = m ∧ lw_rl c1 ws 107 1120 (.inl (c1 0, 1120, .inl C)) := by
      rcases hop _ _ (by omega) eC with ⟨z, -⟩ | ⟨z, h⟩ | ⟨z, -⟩ | ⟨z, -⟩
      · omega
      · exact ⟨by omega, by omega, h⟩
      · omega
      · omega
    obtain ⟨rfl, rfl, C1, C0, q1, hC0, hC⟩ := hC
    have hF : lw_rl c1 ws 101 4 (.inl (c1 0, 4, .inl F)) := by
      rcases hop _ _ (by omega) eF with ⟨z, -⟩ | ⟨z, -⟩ | ⟨-, h⟩ | ⟨z, -⟩
      · omega
      · omega
      · exact h
      · omega
    obtain ⟨F1, F0, q2, hF0, hF⟩ := hF
    have hT : lw_rl c1 ws 102 4 (.inl (c1 0, 4, .inl T)) := by
      rcases hop _ _ (by omega) eT with ⟨z, -⟩ | ⟨z, -⟩ | ⟨z, -⟩ | ⟨-, h⟩
      · omega
      · omega
      · omega
      · exact h
    obtain ⟨T1, T0, q3, hT0, hT⟩ := hT
    have q1 := inj q1
    have q2 := inj q2
    have q3 := inj q3
    subst q1
    subst q2
    subst q3
    obtain ⟨fr, L, r1, r2, r3, r4, r5⟩ := hr C0 F0 T0 hC0 hF0 hT0 r hr2 hbit
    exact ⟨fr, L, (hF _ (by omega)).trans r1, (hT _ (by omega)).trans r2, by omega, rf_W_cg (fun j hj => hC _ (by omega)) r5⟩
  · rcases hop 66 _ (by omega) he with ⟨-, g', z, hg⟩ | ⟨z, -⟩ | ⟨z, -⟩ | ⟨z, -⟩
    · injection z with z
      injection z with _ z
      injection z with _ z
      injection z with z
      rw [z]
      exact hg
    · omega
    · omega
    · omega
theorem lw_sw {cA cA' : e2_cA} {ads r : List Nat} {tag : Nat} {l : List ev_V} {e : va_E} (h : e2_relC cA ads r tag l e) (ht : tag < 60) (h1 : cA'.1 = cA.1) : e2_relC cA' ads r tag l e := by
  rcases h with h | ⟨z0, z1, f, z2, z3⟩ | ⟨z0, n, b, f, z1, z2⟩ | ⟨z0, z1, n, b, lo, hi, f, z2, z3, z4⟩ | ⟨z0, z1⟩ | ⟨z0, n, b, lo, hi, c, f, z2, z3, z4⟩ | ⟨z0, f, z2, z3⟩ | ⟨z0, f, z2, z3⟩
  · exact Or.inl h
  · exact Or.inr (Or.inl ⟨z0, z1, f, by rw [h1]; exact z2, z3⟩)
  · exact Or.inr (Or.inr (Or.inl ⟨z0, n, b, f, z1, by rw [h1]; exact z2⟩))
  · exact Or.inr (Or.inr (Or.inr (Or.inl ⟨z0, z1, n, b, lo, hi, f, z2, by rw [h1]; exact z3, z4⟩)))
  · omega
  · exact Or.inr (Or.inr (Or.inr (Or.inr (Or.inr (Or.inl ⟨z0, n, b, lo, hi, c, f, z2, by rw [h1]; exact z3, z4⟩)))))
  · exact Or.inr (Or.inr (Or.inr (Or.inr (Or.inr (Or.inr (Or.inl ⟨z0, f, by rw [h1]; exact z2, z3⟩))))))
  · exact Or.inr (Or.inr (Or.inr (Or.inr (Or.inr (Or.inr (Or.inr ⟨z0, f, by rw [h1]; exact z2, z3⟩))))))
theorem lw_h.len {ws : va_W} (hl : ws.length = 133) {k : Nat} (hk : k < 133) : ∃ e, lw_c ws k e := by
  have : k < ws.length := by omega
  exact ⟨(ws[k]).2, (ws[k]).1, by rw [List.getElem?_eq_getElem this]⟩
/-- a whole world out of one half known, the other held fast -/
theorem lw_mk {D : va_G} {A : Nat → Prop} {ads r : List Nat} {ws : va_W} {H : Heap} {c1 : Nat → ClassId} {b m lo hi : Nat} {h : ev_H} (hB : lw_b D A ads ws H) (ho : e2_okA (lw_cA c1 ws b m)) (hi2 : hi ≤ 133) (hh : lw_h (lw_cA c1 ws b m) ads r ws h lo hi) (hf : ∀ k, k < 133 → ¬ (lo ≤ k ∧ k < hi) → ev_hg h k = (100 + k, [])) (n1 : (ev_hg h 50).1 ≠ 57) (n2 : (ev_hg h 68).1 ≠ 57) : e2_wo D (lw_cA c1 ws b m) A ads r ws h H := by
  obtain ⟨h1, h2, h3, h4⟩ := hB
  refine ⟨h1, ⟨h2, ho⟩, fun k hk => ?_, h3, h4, fun cs hcs hgd => ?_⟩
  · by_cases hz : lo ≤ k ∧ k < hi
    · obtain ⟨e, ⟨a, ha⟩, he⟩ := hh k hz.1 hz.2
      exact ⟨a, e, ha, he⟩
    · obtain ⟨e, a, ha⟩ := lw_h.len h2 hk
      refine ⟨a, e, ha, ?_⟩
      rw [hf k hk hz]
      exact Or.inr (Or.inr (Or.inr (Or.inr (Or.inl ⟨by show 60 ≤ 100 + k; omega, fun _ => Or.inr ⟨by omega, a, by rw [show 100 + k - 100 = k by omega]; exact ha⟩⟩))))
  · exfalso
    have h0 := hgd.1
    simp only [e2_Jc, List.mem_cons, List.not_mem_nil, or_false] at hcs
    rcases hcs with rfl | rfl | rfl | rfl | rfl | rfl <;> first | exact n1 h0 | exact n2 h0
/-- what was held fast is the same -/
theorem lw_kp {D : va_G} {A : Nat → Prop} {ads r : List Nat} {ws ws2 : va_W} {H : Heap} {c1 : Nat → ClassId} {b m : Nat} {h : ev_H} (hw : e2_wo D (lw_cA c1 ws b m) A ads r ws2 h H) {k : Nat} (hk : k < 133) (hf : ev_hg h k = (100 + k, [])) {e : va_E} (he : lw_c ws2 k e) : lw_c ws k e := by
  obtain ⟨a, e', q1, q2⟩ := hw.2.2.1 k hk
  have := he.un ⟨a, q1⟩
  subst this
  rw [hf] at q2
  have q3 : (lw_cA c1 ws b m).2 (100 + k) e := by
    rcases q2 with ⟨x, -⟩ | ⟨-, x, -⟩ | ⟨x, -⟩ | ⟨-, x, -⟩ | ⟨-, x⟩ | ⟨x, -⟩ | ⟨x, -⟩ | ⟨x, -⟩
    · have x : 100 + k < 50 := x
      omega
    · have x : 100 + k ≤ 52 := x
      omega
    · have x : 100 + k = 53 := x
      omega
    · have x : 100 + k ≤ 56 := x
      omega
    · exact x (by show 100 + k < 999; omega)
    · have x : 100 + k = 57 := x
      omega
    · have x : 100 + k = 58 := x
      omega
    · have x : 100 + k = 59 := x
      omega
  rcases q3 with ⟨x, -⟩ | ⟨-, x⟩
  · omega
  · rw [show 100 + k - 100 = k by omega] at x
    exact x
theorem lw_base {D : va_G} {cA : e2_cA} {A : Nat → Prop} {ads r : List Nat} {ws : va_W} {h : ev_H} {H : Heap} (hw : e2_wo D cA A ads r ws h H) : lw_b D A ads ws H := ⟨hw.1, hw.2.1.1, hw.2.2.2.1, hw.2.2.2.2.1⟩
theorem lw_half {D : va_G} {cA : e2_cA} {A : Nat → Prop} {ads r : List Nat} {ws : va_W} {h : ev_H} {H : Heap} (hw : e2_wo D cA A ads r ws h H) (lo hi : Nat) (hh : hi ≤ 133) : lw_h cA ads r ws h lo hi := fun k _ k2 => by
  obtain ⟨a, e, q1, q2⟩ := hw.2.2.1 k (by omega)
  exact ⟨e, ⟨a, q1⟩, q2⟩
theorem lw_same {D : va_G} {A : Nat → Prop} {ads r : List Nat} {ws ws2 : va_W} {H : Heap} {c1 : Nat → ClassId} {b m : Nat} {h : ev_H} (hw : e2_wo D (lw_cA c1 ws b m) A ads r ws2 h H) {k : Nat} (hk : k < 133) (hf : ev_hg h k = (100 + k, [])) {e : va_E} : lw_c ws2 k e ↔ lw_c ws k e := by
  refine ⟨lw_kp hw hk hf, fun he => ?_⟩
  obtain ⟨e', he'⟩ := lw_h.len hw.2.1.1 hk
  have := (lw_kp hw hk hf he').un he
  subst this
  exact he'
/-! THE CLASS'S HALF -/
def lw_T (T : Nat) : Nat := 2147483648 + T
def lw_no (c1 : Nat → ClassId) : e2_cA := (c1, fun _ _ => False)
def lw_CL (c1 : Nat → ClassId) (ads : List Nat) (ws : va_W) (hW : ev_H) (T : Nat) : Prop := lw_h (lw_no c1) ads [lw_T T] ws hW 0 83
/-- closed: hN is hW with its size named, its letters read-only -/
def lw_okC (hN hW : ev_H) (tc : Nat) : Prop :=
  (∀ k, k < 83 → k ≠ tc → k ≠ tc + 5 → ev_hg hN k = ev_hg hW k) ∧ (∃ l, ev_hg hW tc = (8, l) ∧ l[0]? = some (11, 2147483652, 2147483668) ∧ ev_hg hN tc = (8, l.set 0 (1, 1, 4294967296))) ∧ (∃ l, ev_hg hW (tc + 5) = (50, l) ∧ ev_hg hN (tc + 5) = (58, l)) ∧ (∀ k, k < 133 → ¬ (0 ≤ k ∧ k < 83) → ev_hg hN k = (100 + k, [])) ∧ (∀ k, k < 83 → (ev_hg hN k).1 < 60) ∧ (ev_hg hN 50).1 ≠ 57 ∧ (ev_hg hN 68).1 ≠ 57 ∧ tc + 5 < 83
theorem lw_CL.nm {c1 : Nat → ClassId} {ads : List Nat} {ws : va_W} {hN hW : ev_H} {tc T : Nat} (hok : lw_okC hN hW tc) (hC : lw_CL c1 ads ws hW T) : ∃ sz, 2147483652 ≤ sz ∧ sz ≤ 2147483668 ∧ lw_h (lw_no c1) ads [lw_T T, sz] ws hN 0 83 := by
  obtain ⟨o1, ⟨l, o2, o3, o4⟩, ⟨l5, o5, o6⟩, -, -, -, -, o7⟩ := hok
  have hp : ∃ x, [lw_T T, (0 : Nat)] = [lw_T T] ++ x := ⟨[0], rfl⟩
  obtain ⟨e, he, hr⟩ := hC tc (Nat.zero_le _) (by omega)
  rw [o2] at hr
  obtain ⟨vs, rfl, v2, v3⟩ := hr.obj (show 8 < 50 by decide)
  obtain ⟨w, w1, x, rfl, x1, x2⟩ := v3 0 _ o3
  refine ⟨ev_key x, x1, x2, fun k _ hk => ?_⟩
  have hp : ∃ y, [lw_T T, ev_key x] = [lw_T T] ++ y := ⟨[ev_key x], rfl⟩
  by_cases h1 : k = tc
  · subst h1
    refine ⟨_, he, ?_⟩
    rw [o4]
    refine Or.inl ⟨by show 8 < 50; decide, vs, rfl, by rw [List.length_set]; exact v2, fun j v hj => ?_⟩
    by_cases hj0 : j = 0
    · subst hj0
      rw [List.getElem?_set, if_pos rfl, if_pos (List.getElem?_eq_some_iff.mp o3).1] at hj
      cases hj
      exact ⟨_, w1, x, ev_key x, rfl, rfl, rfl⟩
    · rw [List.getElem?_set, if_neg (fun z => hj0 z.symm)] at hj
      obtain ⟨w', u1, u2⟩ := v3 j v hj
      exact ⟨w', u1, u2.mono hp⟩
  · obtain ⟨e', he', hr'⟩ := hC k (Nat.zero_le _) hk
    refine ⟨e', he', ?_⟩
    by_cases h2 : k = tc + 5
    · subst h2
      rw [o5] at hr'
      rw [o6]
      obtain ⟨f, rfl, f2⟩ := hr'.arr (show 50 ≤ 50 by decide) (show 50 ≤ 52 by decide)
      exact Or.inr (Or.inr (Or.inr (Or.inr (Or.inr (Or.inr (Or.inl ⟨rfl, f, rfl, fun j v hj => (f2 j v hj).mono hp⟩))))))
    · rw [o1 k hk h1 h2]
      exact hr'.mono hp
theorem lw_rr2 {T sz : Nat} {r : List Nat} {E : e2_E} (hs : e2_sat r E) (hE : E.length = 2) (hp : ∃ x, r = [lw_T T, sz] ++ x) : r = [lw_T T, sz] := by
  obtain ⟨x, rfl⟩ := hp
  have := hs.1
  rw [hE, List.length_append] at this
  have : x = [] := List.length_eq_zero_iff.mp (by simp at this; simpa using this)
  rw [this]
  rfl
