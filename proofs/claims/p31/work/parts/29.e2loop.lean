/-! LOOPS: cuts, and cuts by a measure -/
/-- a value that names only variables below n -/
noncomputable def e2_idv (n : Nat) (v : ev_V) : Bool := e2_el (Nat.beq v.1 1) (Nat.blt v.2.1 n) (e2_el (Nat.beq v.1 6) (Nat.blt v.2.1 n) (e2_el (Nat.beq v.1 13 || (Nat.beq v.1 12 || Nat.beq v.1 15)) (Nat.blt (Nat.mod v.2.1 8) n) (e2_el (Nat.beq v.1 14) (Nat.blt v.2.1 n) true)))
noncomputable def e2_idl (n : Nat) (l : List ev_V) : Bool := List.rec (motive := fun _ => Bool) true (fun v _ ih => e2_if (e2_idv n v) ih) l
noncomputable def e2_idh (n d : Nat) : ev_T ev_C d → Bool := Nat.rec (motive := fun d => ev_T ev_C d → Bool) (fun a => e2_idl n (show ev_C from a).2) (fun d ih a => Prod.rec (motive := fun _ => Bool) (fun (a1 : ev_T ev_C d) (a2 : ev_T ev_C d) => e2_if (ih a1) (ih a2)) (a : ev_T ev_C d × ev_T ev_C d)) d
theorem e2_idv_ok {n : Nat} {v : ev_V} (hh : e2_idv n v = true) {ads r : List Nat} {w : Value} (hr : e2_rel ads r v w) : e2_rel ads (r.take n) v w := by
  have tk : ∀ {i k : Nat}, i < n → r[i]? = some k → (r.take n)[i]? = some k := fun hi h => by rw [List.getElem?_take, if_pos hi]; exact h
  obtain ⟨t, a, b⟩ := v
  rcases e2_el_t hh with ⟨h1, h2⟩ | ⟨h1, hh1⟩
  · have h1 : t = 1 := Nat.eq_of_beq_eq_true h1
    have g2 : a < n := Nat.le_of_ble_eq_true h2
    clear hh
    subst h1
    obtain ⟨x, k, e1, e2, e3⟩ := hr
    exact ⟨x, k, e1, tk g2 e2, e3⟩
  · rcases e2_el_t hh1 with ⟨h3, h2⟩ | ⟨h3, hh2⟩
    · have h3 : t = 6 := Nat.eq_of_beq_eq_true h3
      have g2 : a < n := Nat.le_of_ble_eq_true h2
      clear hh hh1 h1
      subst h3
      obtain ⟨k, e1, e2⟩ := hr
      exact ⟨k, tk g2 e1, e2⟩
    · rcases e2_el_t hh2 with ⟨h4, h2⟩ | ⟨h4, hh3⟩
      · have h4 : t = 13 ∨ t = 12 ∨ t = 15 := by
          simp only [Bool.or_eq_true] at h4
          rcases h4 with h | h | h
          · exact Or.inl (Nat.eq_of_beq_eq_true h)
          · exact Or.inr (Or.inl (Nat.eq_of_beq_eq_true h))
          · exact Or.inr (Or.inr (Nat.eq_of_beq_eq_true h))
        have g2 : a % 8 < n := Nat.le_of_ble_eq_true h2
        clear hh hh1 hh2 h1 h3
        rcases h4 with h4 | h4 | h4 <;> subst h4 <;> obtain ⟨x, k, e1, e2, e3⟩ := hr <;> exact ⟨x, k, e1, tk g2 e2, e3⟩
      · rcases e2_el_t hh3 with ⟨h5, h2⟩ | ⟨h5, -⟩
        · have h5 : t = 14 := Nat.eq_of_beq_eq_true h5
          have g2 : a < n := Nat.le_of_ble_eq_true h2
          clear hh hh1 hh2 hh3 h1 h3 h4
          subst h5
          obtain ⟨x, k, e1, e2, e3⟩ := hr
          exact ⟨x, k, e1, tk g2 e2, e3⟩
        · clear hh hh1 hh2 hh3
          match t, h1, h3, h4, h5, hr with
          | 0, _, _, _, _, hr => exact hr
          | 1, h1, _, _, _, _ => exact absurd (show true = false from h1) (by decide)
          | 2, _, _, _, _, hr => exact hr
          | 3, _, _, _, _, hr => exact hr
          | 4, _, _, _, _, hr => exact hr
          | 5, _, _, _, _, hr => exact hr
          | 6, _, h3, _, _, _ => exact absurd (show true = false from h3) (by decide)
          | 7, _, _, _, _, hr => exact hr
          | 8, _, _, _, _, hr => exact hr
          | 9, _, _, _, _, hr => exact hr
          | 10, _, _, _, _, hr => exact hr
          | 11, _, _, _, _, hr => exact hr
          | 12, _, _, h4, _, _ => exact absurd (show true = false from h4) (by decide)
          | 13, _, _, h4, _, _ => exact absurd (show true = false from h4) (by decide)
          | 14, _, _, _, h5, _ => exact absurd (show true = false from h5) (by decide)
          | 15, _, _, h4, _, _ => exact absurd (show true = false from h4) (by decide)
          | n + 16, _, _, _, _, hr => exact hr
theorem e2_idl_ok {n : Nat} : ∀ {l : List ev_V}, e2_idl n l = true → ∀ (j : Nat) (v : ev_V), l[j]? = some v → e2_idv n v = true := by
  intro l
  induction l with
  | nil => intro _ j v hj; simp at hj
  | cons x xs ih =>
    intro h j v hj
    obtain ⟨h1, h2⟩ := e2_if_t (show e2_if (e2_idv n x) (e2_idl n xs) = true from h)
    cases j with
    | zero => cases hj; exact h1
    | succ j => exact ih h2 j v hj
theorem e2_idh_ok {n : Nat} : ∀ (d : Nat) (a : ev_T ev_C d), e2_idh n d a = true → ∀ k, e2_idl n (ev_tget d a k id : ev_C).2 = true := by
  intro d
  induction d with
  | zero => intro a h k; exact h
  | succ d ih =>
    intro a h k
    obtain ⟨a1, a2, rfl⟩ : ∃ (l r : ev_T ev_C d), a = (show ev_T ev_C (d + 1) from ((l, r) : ev_T ev_C d × ev_T ev_C d)) := ⟨(show ev_T ev_C d × ev_T ev_C d from a).1, (show ev_T ev_C d × ev_T ev_C d from a).2, rfl⟩
    obtain ⟨h1, h2⟩ := e2_if_t (show e2_if (e2_idh n d a1) (e2_idh n d a2) = true from h)
    have g1 := ih a1 h1 (Nat.div k 2)
    have g2 := ih a2 h2 (Nat.div k 2)
    show e2_idl n (Bool.rec (motive := fun _ => ev_C) (ev_tget d a1 (Nat.div k 2) id) (ev_tget d a2 (Nat.div k 2) id) (Nat.beq (Nat.mod k 2) 1) : ev_C).2 = true
    cases Nat.beq (Nat.mod k 2) 1
    · exact g1
    · exact g2
theorem e2_idh_1 {n : Nat} {cA : e2_cA} {ads r : List Nat} {h : ev_H} {k : Nat} {e : va_E} (hi : e2_idh n 8 h = true) (hc : e2_relC cA ads r (ev_hg h k).1 (ev_hg h k).2 e) (ht : (ev_hg h k).1 = 57) : 1 < n := by
  obtain ⟨N, b, lo, hi', c, f, q7, -, -⟩ := hc.uni7 ht
  have hl := e2_idl_ok (e2_idh_ok 8 h hi k) 2 (1, 1, c) (by show (ev_hg h k).2[2]? = _; rw [q7]; rfl)
  have hl : Nat.blt 1 n = true := hl
  exact Nat.le_of_ble_eq_true hl
theorem e2_JJ.take {n : Nat} {r : List Nat} {ws : va_W} {h : ev_H} (hJ : e2_JJ r ws h) (h1 : ∀ cs ∈ e2_Jc, e2_Jgd cs h → 1 < n) : e2_JJ (r.take n) ws h :=
  hJ.conv fun cs hcs hgd => ⟨hgd, fun _ _ => rfl, fun x hx => by rw [List.getElem?_take, if_pos (h1 cs hcs hgd)]; exact hx⟩
/-- a guarded list has a row with the third value -/
theorem e2_Jgd_1 {n : Nat} {cA : e2_cA} {ads r : List Nat} {ws : va_W} {h : ev_H} (hi : e2_idh n 8 h = true) (h3 : ∀ k, k < 133 → ∃ a e, ws[k]? = some (a, e) ∧ e2_relC cA ads r (ev_hg h k).1 (ev_hg h k).2 e) : ∀ cs ∈ e2_Jc, e2_Jgd cs h → 1 < n := by
  intro cs hcs hgd
  obtain ⟨i0, -, -, -, hk⟩ := e2_Jc_in hcs
  obtain ⟨a, e, -, q⟩ := h3 _ (hk _ i0)
  exact e2_idh_1 hi q hgd.1
theorem e2_wo.take {n : Nat} {D : va_G} {cA : e2_cA} {A : Nat → Prop} {ads r : List Nat} {ws : va_W} {h : ev_H} {H : Heap} (hw : e2_wo D cA A ads r ws h H) (hi : e2_idh n 8 h = true) : e2_wo D cA A ads (r.take n) ws h H := by
  obtain ⟨h1, h2, h3, h4, h5, h6⟩ := hw
  refine ⟨h1, h2, fun k hk => ?_, h4, h5, h6.take (e2_Jgd_1 hi h3)⟩
  obtain ⟨a, e, q1, q2⟩ := h3 k hk
  have hl := e2_idh_ok 8 h hi k
  refine ⟨a, e, q1, ?_⟩
  rcases q2 with ⟨z0, vs, z1, z2, z3⟩ | ⟨z0, z1, f, z2, z3⟩ | z | z | z | z | ⟨z0, f, z2, z3⟩ | ⟨z0, f, z2, z3⟩
  · exact Or.inl ⟨z0, vs, z1, z2, fun j v hj => by obtain ⟨w, w1, w2⟩ := z3 j v hj; exact ⟨w, w1, e2_idv_ok (e2_idl_ok hl j v hj) w2⟩⟩
  · exact Or.inr (Or.inl ⟨z0, z1, f, z2, fun j v hj => e2_idv_ok (e2_idl_ok hl j v hj) (z3 j v hj)⟩)
  · exact Or.inr (Or.inr (Or.inl z))
  · exact Or.inr (Or.inr (Or.inr (Or.inl z)))
  · exact Or.inr (Or.inr (Or.inr (Or.inr (Or.inl z))))
  · exact Or.inr (Or.inr (Or.inr (Or.inr (Or.inr (Or.inl z)))))
  · exact Or.inr (Or.inr (Or.inr (Or.inr (Or.inr (Or.inr (Or.inl ⟨z0, f, z2, fun j v hj => e2_idv_ok (e2_idl_ok hl j v hj) (z3 j v hj)⟩))))))
  · exact Or.inr (Or.inr (Or.inr (Or.inr (Or.inr (Or.inr (Or.inr ⟨z0, f, z2, fun j v hj => e2_idv_ok (e2_idl_ok hl j v hj) (z3 j v hj)⟩))))))
noncomputable def e2_gset (h : ev_H) (a j : Nat) (v : ev_V) : ev_H := ev_hs h a ((ev_hg h a).1, (ev_hg h a).2.set j v)
theorem e2_wo.congr {D : va_G} {cA : e2_cA} {A : Nat → Prop} {ads r : List Nat} {ws : va_W} {h h' : ev_H} {H : Heap} (hw : e2_wo D cA A ads r ws h H) (he : ∀ k, k < 133 → ev_hg h' k = ev_hg h k) : e2_wo D cA A ads r ws h' H := by
  obtain ⟨h1, h2, h3, h4, h5, h6⟩ := hw
  exact ⟨h1, h2, fun k hk => by rw [he k hk]; exact h3 k hk, h4, h5, h6.tags fun k hk _ => by rw [he k hk]⟩
theorem e2_gset_at {h : ev_H} {a j k : Nat} {v : ev_V} (ha : a < 133) (hk : k < 133) : ev_hg (e2_gset h a j v) k = if k = a then ((ev_hg h a).1, (ev_hg h a).2.set j v) else ev_hg h k := ev_hg_hs h _ (by omega) (by omega)
/-- a field of an object cell is said otherwise -/
theorem e2_wo.field {D : va_G} {cA : e2_cA} {A : Nat → Prop} {ads r : List Nat} {ws : va_W} {h : ev_H} {H : Heap} (hw : e2_wo D cA A ads r ws h H) {a j : Nat} (ha : a < 133) (ht : (ev_hg h a).1 < 50) {v : ev_V} (hv : ∀ q vs w, ws[a]? = some (q, .inr ((ev_hg h a).1, vs)) → vs[j]? = some w → e2_rel ads r v w) : e2_wo D cA A ads r ws (e2_gset h a j v) H := by
  obtain ⟨q, e, z1, z2⟩ := hw.2.2.1 a ha
  obtain ⟨vs, rfl, y2, y3⟩ := z2.obj ht
  refine hw.abs ha z1 _ _ (Or.inl ⟨ht, vs, rfl, by rw [List.length_set]; exact y2, fun j' u hj' => ?_⟩) (Or.inl rfl)
  rw [List.getElem?_set] at hj'
  by_cases hjj : j = j'
  · subst hjj
    rw [if_pos rfl] at hj'
    by_cases hl : j < (ev_hg h a).2.length
    · rw [if_pos hl] at hj'
      cases hj'
      have hlv : j < vs.length := by omega
      refine ⟨vs[j], List.getElem?_eq_getElem hlv, hv q vs _ z1 (List.getElem?_eq_getElem hlv)⟩
    · rw [if_neg hl] at hj'
      cases hj'
  · rw [if_neg hjj] at hj'
    exact y3 j' u hj'
/-- a field's value gets the name of the variable u -/
theorem e2_wo.rename {D : va_G} {cA : e2_cA} {A : Nat → Prop} {ads r1 : List Nat} {ws : va_W} {h : ev_H} {H : Heap} {a j u : Nat} {g : ev_V} (hw : e2_wo D cA A ads r1 ws (e2_gset h a j g) H) (ha : a < 133) (ht : (ev_hg h a).1 < 50) (hj : (ev_hg h a).2[j]? = some (1, u, 4294967296)) (hid : e2_idh u 8 (e2_gset h a j (7, 0, 0)) = true) (hl : (r1.take u).length = u) : ∃ w : Value, e2_rel ads r1 g w ∧ ∀ x : Int32, w = .int x → e2_wo D cA A ads (r1.take u ++ [ev_key x]) ws h H := by
  have hjl : j < (ev_hg h a).2.length := (List.getElem?_eq_some_iff.mp hj).1
  have hga : ∀ v : ev_V, ev_hg (e2_gset h a j v) a = ((ev_hg h a).1, (ev_hg h a).2.set j v) := fun v => by rw [e2_gset_at ha ha, if_pos rfl]
  obtain ⟨q, e, z1, z2⟩ := hw.2.2.1 a ha
  rw [hga g] at z2
  obtain ⟨vs, rfl, y2, y3⟩ := z2.obj ht
  obtain ⟨w, m1, m2⟩ := y3 j g (by show ((ev_hg h a).2.set j g)[j]? = _; rw [List.getElem?_set, if_pos rfl, if_pos hjl])
  refine ⟨w, m2, fun x hx => ?_⟩
  have s1 := hw.field (j := j) (v := (7, 0, 0)) ha (by rw [hga g]; exact ht) (fun _ _ _ _ _ => trivial)
  have s2 : e2_wo D cA A ads r1 ws (e2_gset h a j (7, 0, 0)) H := s1.congr fun k hk => by
    rw [e2_gset_at ha hk, e2_gset_at ha hk]
    by_cases hka : k = a
    · rw [if_pos hka, if_pos hka, hga g]
      show _ = ((ev_hg h a).1, ((ev_hg h a).2.set j g).set j (7, 0, 0))
      rw [List.set_set]
    · rw [if_neg hka, if_neg hka, e2_gset_at ha hk, if_neg hka]
  have hat : (r1.take u ++ [ev_key x])[u]? = some (ev_key x) := by rw [List.getElem?_append_right (by omega), hl, Nat.sub_self]; rfl
  have s3 := (s2.take hid).mono (r' := r1.take u ++ [ev_key x]) ⟨_, rfl⟩
  have s4 := s3.field (j := j) (v := (1, u, 4294967296)) ha (by rw [hga]; exact ht) (fun q' vs' w' e1 e2 => by
    rw [hga] at e1
    rw [z1] at e1
    have e1 : vs = vs' := (Prod.mk.inj (Sum.inr.inj (Prod.mk.inj (Option.some.inj e1)).2)).2
    rw [← e1, m1] at e2
    cases e2
    exact ⟨x, ev_key x, hx, hat, rfl⟩)
  refine s4.congr fun k hk => ?_
  rw [e2_gset_at ha hk]
  by_cases hka : k = a
  · rw [if_pos hka, hka, hga]
    show ev_hg h a = ((ev_hg h a).1, ((ev_hg h a).2.set j (7, 0, 0)).set j (1, u, 4294967296))
    rw [List.set_set]
    have : (ev_hg h a).2.set j (1, u, 4294967296) = (ev_hg h a).2 := by
      apply List.ext_getElem?
      intro i
      rw [List.getElem?_set]
      by_cases hi : j = i
      · subst hi
        rw [if_pos rfl, if_pos hjl, hj]
      · rw [if_neg hi]
    rw [this]
  · rw [if_neg hka, e2_gset_at ha hk, if_neg hka]
theorem e2_fr.take {n : Nat} {ads r : List Nat} {nL : Nat} {al : List ev_V} {ls : Array Slot} (h : e2_fr ads r nL al ls) (hi : e2_idl n al = true) : e2_fr ads (r.take n) nL al ls := by
  obtain ⟨h1, lv, h2, h3⟩ := h
  exact ⟨h1, lv, h2, fun i v hv h9 => by obtain ⟨q7, w, q1, q2⟩ := h3 i v hv h9; exact ⟨q7, w, q1, e2_idv_ok (e2_idl_ok hi i v hv) q2⟩⟩
/-- the bounds of the first variables say no more than those that stand -/
noncomputable def e2_pre (n : Nat) (c : e2_E) : Nat → e2_E → Bool :=
  List.rec (motive := fun _ => Nat → e2_E → Bool) (fun _ _ => true) (fun x _ ih i E => List.rec (motive := fun _ => Bool) false (fun y ys _ => e2_b x fun lo hi b d => e2_b y fun lo' hi' b' d' => e2_if (Nat.ble lo lo') (e2_if (Nat.ble hi' hi) (e2_if (Nat.blt b n) (e2_if (e2_el (Nat.beq b i) (Nat.beq d 0) (e2_if (Nat.beq b b') (Nat.ble d d'))) (ih (Nat.succ i) ys))))) E) c
theorem e2_pre_ok {n : Nat} : ∀ {c : e2_E} {i : Nat} {E : e2_E}, e2_pre n c i E = true → c.length ≤ E.length ∧ ∀ (j : Nat) (x : e2_B), c[j]? = some x → ∃ y : e2_B, E[j]? = some y ∧ x.1 ≤ y.1 ∧ y.2.1 ≤ x.2.1 ∧ x.2.2.1 < n ∧ ((x.2.2.1 = i + j ∧ x.2.2.2 = 0) ∨ (x.2.2.1 = y.2.2.1 ∧ x.2.2.2 ≤ y.2.2.2)) := by
  intro c
  induction c with
  | nil => intro i E _; exact ⟨Nat.zero_le _, fun j x hj => by simp at hj⟩
  | cons x xs ih =>
    intro i E hh
    cases E with
    | nil => exact absurd hh (by simp [e2_pre])
    | cons y ys =>
      obtain ⟨lo, hi, b, d⟩ := x
      obtain ⟨lo', hi', b', d'⟩ := y
      have hh : e2_if (Nat.ble lo lo') (e2_if (Nat.ble hi' hi) (e2_if (Nat.blt b n) (e2_if (e2_el (Nat.beq b i) (Nat.beq d 0) (e2_if (Nat.beq b b') (Nat.ble d d'))) (e2_pre n xs (Nat.succ i) ys)))) = true := hh
      obtain ⟨h1, hh1⟩ := e2_if_t hh
      obtain ⟨h2, hh2⟩ := e2_if_t hh1
      obtain ⟨h3, hh3⟩ := e2_if_t hh2
      obtain ⟨h4, hh4⟩ := e2_if_t hh3
      obtain ⟨g1, g2⟩ := ih hh4
      refine ⟨by simp; exact g1, fun j z hj => ?_⟩
      cases j with
      | zero =>
        cases hj
        refine ⟨_, rfl, Nat.le_of_ble_eq_true h1, Nat.le_of_ble_eq_true h2, Nat.le_of_ble_eq_true h3, ?_⟩
        rcases e2_el_t h4 with ⟨z1, z2⟩ | ⟨-, z2⟩
        · exact Or.inl ⟨Nat.eq_of_beq_eq_true z1, Nat.eq_of_beq_eq_true z2⟩
        · obtain ⟨z3, z4⟩ := e2_if_t z2
          exact Or.inr ⟨Nat.eq_of_beq_eq_true z3, Nat.le_of_ble_eq_true z4⟩
      | succ j =>
        obtain ⟨y, q1, q2, q3, q4, q5⟩ := g2 j z hj
        refine ⟨y, q1, q2, q3, q4, ?_⟩
        rcases q5 with ⟨a, b⟩ | q5
        · exact Or.inl ⟨by show z.2.2.1 = i + (j + 1); omega, b⟩
        · exact Or.inr q5
theorem e2_sat.take {r : List Nat} {E c : e2_E} (hs : e2_sat r E) (hp : e2_pre c.length c 0 E = true) : e2_sat (r.take c.length) c := by
  obtain ⟨h1, h2⟩ := e2_pre_ok hp
  refine ⟨by rw [List.length_take, hs.1]; omega, fun i b hb => ?_⟩
  obtain ⟨y, q1, q2, q3, q4, q5⟩ := h2 i b hb
  obtain ⟨k, kb, f1, f2, f3, f4, f5⟩ := hs.get q1
  have hi := (List.getElem?_eq_some_iff.mp hb).1
  rcases q5 with ⟨z1, z2⟩ | ⟨z1, z2⟩
  · refine ⟨k, k, by rw [List.getElem?_take, if_pos hi]; exact f1, by omega, by omega, ?_, by omega⟩
    rw [List.getElem?_take, if_pos q4, z1, Nat.zero_add]
    exact f1
  · refine ⟨k, kb, by rw [List.getElem?_take, if_pos hi]; exact f1, by omega, by omega, ?_, by omega⟩
    rw [List.getElem?_take, if_pos q4, z1]
    exact f4
abbrev e2_Cu : Type := List ev_V × e2_E × ev_H
/-- is a state one of those that a cut stands for -/
noncomputable def e2_isC (cu : e2_Cu) (al : List ev_V) (E : e2_E) (h : ev_H) : Bool := e2_if (e2_lle (e2_vl9 E) cu.1 al) (e2_if (e2_pre cu.2.1.length cu.2.1 0 E) (e2_if (e2_idl cu.2.1.length cu.1) (e2_if (e2_idh cu.2.1.length 8 cu.2.2) (e2_hle E 8 cu.2.2 h))))
noncomputable def e2_anyC (cuts : List e2_Cu) (al : List ev_V) (E : e2_E) (h : ev_H) : Bool := List.rec (motive := fun _ => Bool) false (fun cu _ ih => e2_el (e2_isC cu al E h) true ih) cuts
noncomputable def e2_cutS (cuts : List e2_Cu) : e2_S := fun al st E h => e2_0 st (e2_anyC cuts al E h)
theorem e2_anyC_ok {al : List ev_V} {E : e2_E} {h : ev_H} : ∀ {cuts : List e2_Cu}, e2_anyC cuts al E h = true → ∃ cu ∈ cuts, e2_isC cu al E h = true := by
  intro cuts
  induction cuts with
  | nil => intro h; exact absurd h (by simp [e2_anyC])
  | cons cu r ih =>
    intro hh
    rcases e2_el_t (show e2_el (e2_isC cu al E h) true (e2_anyC r al E h) = true from hh) with ⟨z, -⟩ | ⟨-, z⟩
    · exact ⟨cu, List.mem_cons_self, z⟩
    · obtain ⟨c', q1, q2⟩ := ih z
      exact ⟨c', List.mem_cons_of_mem _ q1, q2⟩
section E2Loop
variable {p : Program} {l : Launch} {e : Env} {R : Room} {s : State} {m : MethodId} {args : Array Value} {below : List Frame} {meth : Method} {c : Code} {Q : State → Prop}
variable {D : va_G} {cA : e2_cA} {A : Nat → Prop} {ads r0 : List Nat} {d : Nat} {call : e2_Call} {F : e2_F} {M : ev_M} {MT : List ev_M} {bp : Nat}
theorem e2_gdM.ext {r1 : List Nat} {t : Nat} {al st : List ev_V} {E : e2_E} {h : ev_H} (hg : e2_gdM M p l e R s m args below meth c Q D cA A ads r0 t al st E h) (h1 : ∃ x, r1 = r0 ++ x) : e2_gdM M p l e R s m args below meth c Q D cA A ads r1 t al st E h :=
  fun r ws H locs ls vs hp => hg r ws H locs ls vs (e2_ext h1 hp)
theorem e2_take_pre {r0 r : List Nat} {n : Nat} (hp : ∃ x, r = r0 ++ x) (hn : r0.length ≤ n) : ∃ x, r.take n = r0 ++ x := by
  obtain ⟨x, rfl⟩ := hp
  exact ⟨x.take (n - r0.length), by rw [List.take_append, List.take_of_length_le hn]⟩
theorem e2_isC_ok {cu : e2_Cu} {al : List ev_V} {E : e2_E} {h : ev_H} (hh : e2_isC cu al E h = true) (hn : r0.length ≤ cu.2.1.length) (hg : e2_gdM M p l e R s m args below meth c Q D cA A ads r0 bp cu.1 [] cu.2.1 cu.2.2) : e2_gdM M p l e R s m args below meth c Q D cA A ads r0 bp al [] E h := by
  obtain ⟨h1, hh1⟩ := e2_if_t hh
  obtain ⟨h2, hh2⟩ := e2_if_t hh1
  obtain ⟨h3, hh3⟩ := e2_if_t hh2
  obtain ⟨h4, h5⟩ := e2_if_t hh3
  intro r ws H locs ls vs hp hs hwo hS hfr hst
  have hst := hst.nil
  subst hst
  exact hg (r.take cu.2.1.length) ws H locs ls [] (e2_take_pre hp hn) (hs.take h2) ((hwo.le hs h5).take h4) hS ((hfr.le hs h1).take h3) trivial
/-- cuts, one behind the other: a run from one comes only to those behind it -/
noncomputable def e2_cutsB (call : e2_Call) (F : e2_F) (X : List e2_X) (bp fuel : Nat) (cuts : List e2_Cu) : Bool := List.rec (motive := fun _ => Bool) true (fun cu r ih => e2_if (e2_runM call F X (Nat.beq bp) (fun _ => e2_cutS r) fuel (e2_seek X bp) cu.1 [] cu.2.1 cu.2.2) ih) cuts
theorem e2_cuts_ok (hen : en_ok) (ha : e2_act M d F p l e R s m args below meth c Q D cA A ads r0) (hcall : ∀ k M, MT[k]? = some M → ∀ as E h K, call k as E h K = true → e2_Met l M d as E h K) {C : List e2_I} (hC : e2_okL MT M.1.cls (M.1.name == "<init>") M.2.2.2 M.2.1 C) {X : List e2_X} (hX : X = C.map e2_x) {fuel : Nat} : ∀ {cuts : List e2_Cu}, (∀ cu ∈ cuts, r0.length ≤ cu.2.1.length) → e2_cutsB call F X bp fuel cuts = true → ∀ cu ∈ cuts, e2_gdM M p l e R s m args below meth c Q D cA A ads r0 bp cu.1 [] cu.2.1 cu.2.2 := by
  intro cuts
  induction cuts with
  | nil => intro _ _ cu hcu; cases hcu
  | cons cu r ih =>
    intro hn hh cu' hcu'
    obtain ⟨h1, h2⟩ := e2_if_t (show e2_if (e2_runM call F X (Nat.beq bp) (fun _ => e2_cutS r) fuel (e2_seek X bp) cu.1 [] cu.2.1 cu.2.2) (e2_cutsB call F X bp fuel r) = true from hh)
    have hr := ih (fun q hq => hn q (List.mem_cons_of_mem _ hq)) h2
    rcases List.mem_cons.mp hcu' with rfl | hcu'
    · refine e2_fromM hen ha hcall (fun t al st E h hb hk => ?_) hC hX bp h1
      rw [← Nat.eq_of_beq_eq_true hb]
      obtain ⟨rfl, hk⟩ := e2_0_t hk
      obtain ⟨q, q1, q2⟩ := e2_anyC_ok hk
      exact e2_isC_ok q2 (hn q (List.mem_cons_of_mem _ q1)) (hr q q1)
    · exact hr cu' hcu'
end E2Loop
