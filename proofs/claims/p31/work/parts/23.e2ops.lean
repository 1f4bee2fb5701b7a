/-! WORLDS AND FRAMES of the second engine; the simple operations -/
abbrev e2_cA : Type := (Nat → ClassId) × (Nat → va_E → Prop)
def e2_tys (cA : e2_cA) : List (ClassId × FieldType) := [(cA.1 0, .int), (cA.1 1, .byte), (cA.1 2, .boolean), (cA.1 3, .long)]
def e2_relC (cA : e2_cA) (ads r : List Nat) (tag : Nat) (l : List ev_V) (e : va_E) : Prop :=
  (tag < 50 ∧ ∃ vs, e = .inr (tag, vs) ∧ vs.length = l.length ∧ ∀ (j : Nat) (v : ev_V), l[j]? = some v → ∃ w, vs[j]? = some w ∧ e2_rel ads r v w) ∨
  (50 ≤ tag ∧ tag ≤ 52 ∧ ∃ f : Nat → Int32, e = .inl (cA.1 (tag - 50), l.length, .inl f) ∧ ∀ (j : Nat) (v : ev_V), l[j]? = some v → e2_rel ads r v (.int (f j))) ∨
  (tag = 53 ∧ ∃ (n b : Nat) (f : Nat → Int64), l = [(0, n, b)] ∧ e = .inl (cA.1 3, n, .inr (.inl f))) ∨
  (54 ≤ tag ∧ tag ≤ 56 ∧ ∃ (n b lo hi : Nat) (f : Nat → Int32), l = [(0, n, b), (11, lo, hi)] ∧ e = .inl (cA.1 (tag - 54), n, .inl f) ∧ ∀ j, j < n → lo ≤ ev_key (f j) ∧ ev_key (f j) ≤ hi) ∨
  (60 ≤ tag ∧ (tag < 999 → cA.2 tag e)) ∨
  (tag = 57 ∧ ∃ (n b lo hi c : Nat) (f : Nat → Int32), l = [(0, n, b), (11, lo, hi), (1, 1, c)] ∧ e = .inl (cA.1 0, n, .inl f) ∧ ∀ j, j < n → lo ≤ ev_key (f j) ∧ ev_key (f j) ≤ hi) ∨
  (tag = 58 ∧ ∃ f : Nat → Int32, e = .inl (cA.1 0, l.length, .inl f) ∧ ∀ (j : Nat) (v : ev_V), l[j]? = some v → e2_rel ads r v (.int (f j))) ∨
  (tag = 59 ∧ ∃ f : Nat → Int64, e = .inl (cA.1 3, l.length, .inr (.inl f)) ∧ ∀ (j : Nat) (v : ev_V), l[j]? = some v → e2_rel ads r v (.long (f j)))
theorem e2_relC.mono {cA : e2_cA} {ads r r' : List Nat} {tag : Nat} {l : List ev_V} {e : va_E} (h : e2_relC cA ads r tag l e) (hp : ∃ x, r' = r ++ x) : e2_relC cA ads r' tag l e := by
  rcases h with ⟨h0, vs, h1, h2, h3⟩ | ⟨h0, h1, f, h2, h3⟩ | h | h | h | h | ⟨h0, f, h2, h3⟩ | ⟨h0, f, h2, h3⟩
  · exact Or.inl ⟨h0, vs, h1, h2, fun j v hj => by obtain ⟨w, q1, q2⟩ := h3 j v hj; exact ⟨w, q1, q2.mono hp⟩⟩
  · exact Or.inr (Or.inl ⟨h0, h1, f, h2, fun j v hj => (h3 j v hj).mono hp⟩)
  · exact Or.inr (Or.inr (Or.inl h))
  · exact Or.inr (Or.inr (Or.inr (Or.inl h)))
  · exact Or.inr (Or.inr (Or.inr (Or.inr (Or.inl h))))
  · exact Or.inr (Or.inr (Or.inr (Or.inr (Or.inr (Or.inl h)))))
  · exact Or.inr (Or.inr (Or.inr (Or.inr (Or.inr (Or.inr (Or.inl ⟨h0, f, h2, fun j v hj => (h3 j v hj).mono hp⟩))))))
  · exact Or.inr (Or.inr (Or.inr (Or.inr (Or.inr (Or.inr (Or.inr ⟨h0, f, h2, fun j v hj => (h3 j v hj).mono hp⟩))))))
/-! THE JOINT INVARIANT of a reader's rows (mownFrom, own, pick) and of the letters that it goes by: they all stand read-only -/
def e2_Jc : List (List Nat) := [[50, 51, 53, 6], [50, 51, 53, 22], [68, 69, 71, 6], [68, 69, 71, 22], [50], [68]]
def e2_ct (ws : va_W) (k : Nat) (f : Nat → Int32) : Prop := ∃ (t : ClassId) (n : Nat), (ws[k]?).map Prod.snd = some (.inl (t, n, .inl f))
/-- for each cell c below s: where it leads (d), and there every sign that may be picked ends at s or before -/
def e2_J0 (m o p L : Nat → Int32) (s : Nat) : Prop := ∀ c, c < s → ∃ d, m c = ev_i d ∧ c ≤ d ∧ d ≤ s ∧ (d < s → m d = ev_i d ∧ ∀ a, a ≤ 8 → ∀ q, q = p (9 * d + (if ev_u (o d) / 2 ^ a % 2 = 1 then a else 8)) → q = -1 ∨ ∃ g t, g < 8 ∧ q = ev_i g ∧ L g = ev_i t ∧ t ≤ 6 ∧ d + t ≤ s)
/-- of the row of ways alone: the last way leads to itself; of all four together: e2_J0 -/
def e2_J1 (n : Nat) (fs : Nat → Nat → Int32) (s : Nat) : Prop := (n = 4 → e2_J0 (fs 0) (fs 1) (fs 2) (fs 3) s) ∧ fs 0 s = ev_i s
def e2_Jpr (cs : List Nat) (r : List Nat) (ws : va_W) : Prop := ∃ (s : Nat) (fs : Nat → Nat → Int32), r[1]? = some (2147483648 + s) ∧ s ≤ 20 ∧ (∀ i, i < cs.length → e2_ct ws (cs.getD i 0) (fs i)) ∧ e2_J1 cs.length fs s
def e2_Jgd (cs : List Nat) (h : ev_H) : Prop := (ev_hg h (cs.getD 0 0)).1 = 57 ∧ ∀ k ∈ cs, (ev_hg h k).1 = 57 ∨ (ev_hg h k).1 = 58
def e2_JJ (r : List Nat) (ws : va_W) (h : ev_H) : Prop := ∀ cs ∈ e2_Jc, e2_Jgd cs h → e2_Jpr cs r ws
theorem e2_Jc_in {cs : List Nat} (h : cs ∈ e2_Jc) : cs.getD 0 0 ∈ cs ∧ True ∧ True ∧ (∀ i, i < cs.length → cs.getD i 0 ∈ cs) ∧ ∀ k ∈ cs, k < 133 := by
  simp only [e2_Jc, List.mem_cons, List.not_mem_nil, or_false] at h
  rcases h with rfl | rfl | rfl | rfl | rfl | rfl <;> decide
theorem e2_JJ.conv {r r' : List Nat} {ws ws' : va_W} {h h' : ev_H} (hJ : e2_JJ r ws h) (hg : ∀ cs ∈ e2_Jc, e2_Jgd cs h' → e2_Jgd cs h ∧ (∀ k ∈ cs, (ws'[k]?).map Prod.snd = (ws[k]?).map Prod.snd) ∧ ∀ x, r[1]? = some x → r'[1]? = some x) : e2_JJ r' ws' h' := by
  intro cs hcs hgd
  obtain ⟨g1, g2, g3⟩ := hg cs hcs hgd
  obtain ⟨s, fs, j1, j6, j2, j7⟩ := hJ cs hcs g1
  obtain ⟨-, -, -, ii, -⟩ := e2_Jc_in hcs
  refine ⟨s, fs, g3 _ j1, j6, fun i hi => ?_, j7⟩
  obtain ⟨t, n, e⟩ := j2 i hi
  exact ⟨t, n, by rw [g2 _ (ii i hi)]; exact e⟩
theorem e2_r1 {r r' : List Nat} (hp : ∃ x, r' = r ++ x) : ∀ x, r[1]? = some x → r'[1]? = some x := by
  obtain ⟨y, rfl⟩ := hp
  intro x hx
  rw [List.getElem?_append_left (List.getElem?_eq_some_iff.mp hx).1]
  exact hx
theorem e2_JJ.tags {r : List Nat} {ws : va_W} {h h' : ev_H} (hJ : e2_JJ r ws h) (ht : ∀ k, k < 133 → (ev_hg h' k).1 = 57 ∨ (ev_hg h' k).1 = 58 → (ev_hg h k).1 = (ev_hg h' k).1) : e2_JJ r ws h' :=
  hJ.conv fun cs hcs hgd => ⟨⟨by rw [ht _ ((e2_Jc_in hcs).2.2.2.2 _ (e2_Jc_in hcs).1) (Or.inl hgd.1)]; exact hgd.1, fun k hk => by rw [ht k ((e2_Jc_in hcs).2.2.2.2 k hk) (hgd.2 k hk)]; exact hgd.2 k hk⟩, fun _ _ => rfl, fun _ h => h⟩
/-- the height of a rule's pile ahead of its m-th item; and that no item goes below it or above 60 -/
def rf_L (c : Int32) : Prop := 2147483745 ≤ ev_key c ∧ ev_key c ≤ 2147483770
noncomputable def rf_h (cd : Nat → Int32) (fr : Nat) : Nat → Nat
  | 0 => 0
  | m + 1 => if cd (fr + m) = 126 then rf_h cd fr m else @ite _ (rf_L (cd (fr + m))) (Classical.propDecidable _) (rf_h cd fr m + 1) (rf_h cd fr m - 1)
def rf_W (cd : Nat → Int32) (fr L : Nat) : Prop := ∀ m, m < L → (cd (fr + m) = 126 → 1 ≤ rf_h cd fr m) ∧ (cd (fr + m) ≠ 126 → rf_L (cd (fr + m)) → rf_h cd fr m < 60) ∧ (cd (fr + m) ≠ 126 → ¬ rf_L (cd (fr + m)) → 2 ≤ rf_h cd fr m)
/-- what is opaque, and how long it is: 60 to 63, 70 to 73 the code, 64, 65, 74, 75 where rules begin and end, 66 the row of acts -/
def rf_n (t : Nat) : Nat := if t = 66 then 1066 else if t = 64 ∨ t = 65 ∨ t = 74 ∨ t = 75 then 4 else 1120
def rf_was (g : Nat → Int32) : Prop := ∀ a, a < 41 → 2147483648 ≤ ev_key (g (26 * a + 25)) ∧ ev_key (g (26 * a + 25)) ≤ 2147484647
/-- what the opaque cells from 60 on say: each is a row of its length, known by its elements alone; of bank b, the rules whose bits m has are well-formed (60 + 10 b + m the code, 64 + 10 b where rules begin, 65 + 10 b where they end); every 26th element of the acts, from the 25th on, is a seed -/
def e2_okA (cA : e2_cA) : Prop :=
  (∀ t e, 60 ≤ t → t < 76 → cA.2 t e → ∃ g, e = .inl (cA.1 0, rf_n t, .inl g) ∧ ∀ g', (∀ j, j < rf_n t → g' j = g j) → cA.2 t (.inl (cA.1 0, rf_n t, .inl g'))) ∧
  (∀ b r m, b < 2 → r < 2 → m < 4 → m / 2 ^ r % 2 = 1 → ∀ C F T, cA.2 (60 + 10 * b + m) (.inl (cA.1 0, 1120, .inl C)) → cA.2 (64 + 10 * b) (.inl (cA.1 0, 4, .inl F)) → cA.2 (65 + 10 * b) (.inl (cA.1 0, 4, .inl T)) → ∃ (fr L : Nat), F (2 * b + r) = ev_i fr ∧ T (2 * b + r) = ev_i (fr + L) ∧ fr + L ≤ 1120 ∧ rf_W C fr L) ∧
  ∀ g, cA.2 66 (.inl (cA.1 0, 1066, .inl g)) ↔ rf_was g
theorem e2_okA.swap {cA cA' : e2_cA} (h : e2_okA cA) (h1 : cA'.1 = cA.1) (h2 : ∀ t e, t < 100 → (cA'.2 t e ↔ cA.2 t e)) : e2_okA cA' := by
  obtain ⟨g1, g2, g3⟩ := h
  refine ⟨fun t e t1 t2 he => ?_, fun b r m hb hr hm hbit C F T e1 e2 e3 => ?_, fun g => ?_⟩
  · obtain ⟨g, q1, q2⟩ := g1 t e t1 t2 ((h2 _ _ (by omega)).mp he)
    rw [h1]
    exact ⟨g, q1, fun g' hg => (h2 _ _ (by omega)).mpr (q2 g' hg)⟩
  · rw [h1] at e1 e2 e3
    exact g2 b r m hb hr hm hbit C F T ((h2 _ _ (by omega)).mp e1) ((h2 _ _ (by omega)).mp e2) ((h2 _ _ (by omega)).mp e3)
  · rw [h1, h2 _ _ (by omega)]
    exact g3 g
def e2_wo (D : va_G) (cA : e2_cA) (A : Nat → Prop) (ads r : List Nat) (ws : va_W) (h : ev_H) (H : Heap) : Prop :=
  ws.map Prod.fst = ads ∧ (ws.length = 133 ∧ e2_okA cA) ∧ (∀ k, k < 133 → ∃ a e, ws[k]? = some (a, e) ∧ e2_relC cA ads r (ev_hg h k).1 (ev_hg h k).2 e) ∧ va_P D en_classes ws H ∧ va_D A ws ∧ e2_JJ r ws h
theorem e2_wo.mono {D : va_G} {cA : e2_cA} {A : Nat → Prop} {ads r r' : List Nat} {ws : va_W} {h : ev_H} {H : Heap} (hw : e2_wo D cA A ads r ws h H) (hp : ∃ x, r' = r ++ x) : e2_wo D cA A ads r' ws h H := by
  obtain ⟨h1, h2, h3, h4, h5⟩ := hw
  exact ⟨h1, h2, fun k hk => by obtain ⟨a, e, q1, q2⟩ := h3 k hk; exact ⟨a, e, q1, q2.mono hp⟩, h4, h5.1, h5.2.conv fun _ _ hg => ⟨hg, fun _ _ => rfl, e2_r1 hp⟩⟩
theorem e2_wo.cell {D : va_G} {cA : e2_cA} {A : Nat → Prop} {ads r : List Nat} {ws : va_W} {h : ev_H} {H : Heap} (hw : e2_wo D cA A ads r ws h H) {k q : Nat} (hk : k < 133) (hq : ads[k]? = some q) : ∃ e, ws[k]? = some (q, e) ∧ e2_relC cA ads r (ev_hg h k).1 (ev_hg h k).2 e := by
  obtain ⟨a, e, h1, h2⟩ := hw.2.2.1 k hk
  have h3 : (ws.map Prod.fst)[k]? = some a := by rw [List.getElem?_map, h1]; rfl
  rw [hw.1, hq] at h3
  cases h3
  exact ⟨e, h1, h2⟩
/-- a cell's abstract contents changed, the world as it was -/
theorem e2_wo.abs {D : va_G} {cA : e2_cA} {A : Nat → Prop} {ads r : List Nat} {ws : va_W} {h : ev_H} {H : Heap} (hw : e2_wo D cA A ads r ws h H) {k q : Nat} {e : va_E} (hk : k < 133) (hq : ws[k]? = some (q, e)) (tag : Nat) (l : List ev_V) (hc : e2_relC cA ads r tag l e) (ht : tag = (ev_hg h k).1 ∨ tag < 57 := by first | exact Or.inl rfl | (right; omega)) : e2_wo D cA A ads r ws (ev_hs h k (tag, l)) H := by
  obtain ⟨h1, h2, h3, h4, h5, h6⟩ := hw
  refine ⟨h1, h2, fun i hi => ?_, h4, h5, h6.tags fun i hi hg => ?_⟩
  rotate_left
  · rw [ev_hg_hs h _ (by omega) (by omega)] at hg ⊢
    by_cases hik : i = k
    · subst hik
      rw [if_pos rfl] at hg ⊢
      have hg : tag = 57 ∨ tag = 58 := hg
      show (ev_hg h i).1 = tag
      omega
    · rw [if_neg hik]
  rw [ev_hg_hs h _ (by omega) (by omega)]
  by_cases hik : i = k
  · subst hik
    rw [if_pos rfl]
    exact ⟨q, e, hq, hc⟩
  · rw [if_neg hik]
    exact h3 i hi
theorem e2_wo.set {D : va_G} {cA : e2_cA} {A : Nat → Prop} {ads r : List Nat} {ws : va_W} {h : ev_H} {H H1 : Heap} (hw : e2_wo D cA A ads r ws h H) {k q : Nat} {e e' : va_E} (hk : k < 133) (hq : ws[k]? = some (q, e)) (tag : Nat) (l : List ev_V) (hc : e2_relC cA ads r tag l e') (hP : va_P D en_classes (ws.set k (q, e')) H1) (hD : va_D A (ws.set k (q, e'))) (ht : tag < 57 ∨ 59 ≤ tag := by omega) : e2_wo D cA A ads r (ws.set k (q, e')) (ev_hs h k (tag, l)) H1 := by
  obtain ⟨h1, h2, h3, -, -, h6⟩ := hw
  have hl : k < ws.length := (List.getElem?_eq_some_iff.mp hq).1
  refine ⟨?_, ⟨by rw [List.length_set]; exact h2.1, h2.2⟩, ?_, hP, hD, h6.conv fun cs hcs hgd => ?_⟩
  rotate_left 2
  · have hkc : k ∉ cs := fun hkc => by
      have := hgd.2 k hkc
      rw [ev_hg_hs h _ (by omega) (by omega), if_pos rfl] at this
      have this : tag = 57 ∨ tag = 58 := this
      omega
    have hi0 := (e2_Jc_in hcs).1
    refine ⟨⟨?_, fun i hi => ?_⟩, fun i hi => ?_, fun _ h => h⟩
    · have := hgd.1
      rw [ev_hg_hs h _ (by omega) (by have := (e2_Jc_in hcs).2.2.2.2 _ hi0; omega), if_neg (fun z : cs.getD 0 0 = k => hkc (by rw [← z]; exact hi0))] at this
      exact this
    · have := hgd.2 i hi
      rw [ev_hg_hs h _ (by omega) (by have := (e2_Jc_in hcs).2.2.2.2 i hi; omega), if_neg (fun z : i = k => hkc (by rw [← z]; exact hi))] at this
      exact this
    · rw [List.getElem?_set, if_neg (fun z : k = i => hkc (by rw [z]; exact hi))]
  · rw [← h1]
    apply List.ext_getElem?
    intro i
    rw [List.getElem?_map, List.getElem?_map, List.getElem?_set]
    by_cases hi : k = i
    · subst hi
      rw [if_pos rfl, if_pos hl, hq]; rfl
    · rw [if_neg hi]
  · intro i hi
    rw [ev_hg_hs h _ (by omega) (by omega), List.getElem?_set]
    by_cases hik : i = k
    · subst hik
      rw [if_pos rfl, if_pos rfl, if_pos hl]
      exact ⟨q, e', rfl, hc⟩
    · rw [if_neg hik, if_neg (fun z => hik z.symm)]
      exact h3 i hi
/-- a reader's row of ways, read-only from here on -/
theorem e2_wo.set7 {D : va_G} {cA : e2_cA} {A : Nat → Prop} {ads r : List Nat} {ws : va_W} {h : ev_H} {H H1 : Heap} (hw : e2_wo D cA A ads r ws h H) {k q : Nat} {e e' : va_E} (hk : k = 50 ∨ k = 68) (hq : ws[k]? = some (q, e)) (l : List ev_V) (hc : e2_relC cA ads r 57 l e') (hP : va_P D en_classes (ws.set k (q, e')) H1) (hD : va_D A (ws.set k (q, e'))) (ho : (ev_hg h (k + 1)).1 = 54) {s : Nat} {f : Nat → Int32} (hr : r[1]? = some (2147483648 + s)) (hs : s ≤ 20) (hf : ∃ t n, e' = .inl (t, n, .inl f)) (hfs : f s = ev_i s) : e2_wo D cA A ads r (ws.set k (q, e')) (ev_hs h k (57, l)) H1 := by
  have h0 := hw.set (by omega) hq 999 [] (Or.inr (Or.inr (Or.inr (Or.inr (Or.inl ⟨by omega, fun z => by omega⟩))))) hP hD
  obtain ⟨h1, h2, h3, h4, h5, h6⟩ := h0
  have hl : k < ws.length := (List.getElem?_eq_some_iff.mp hq).1
  refine ⟨h1, h2, fun i hi => ?_, h4, h5, fun cs hcs hgd => ?_⟩
  · by_cases hik : i = k
    · subst hik
      rw [ev_hg_hs h _ (by omega) (by omega), if_pos rfl]
      exact ⟨q, e', by rw [List.getElem?_set, if_pos rfl, if_pos hl], hc⟩
    · obtain ⟨a, e2, q1, q2⟩ := h3 i hi
      rw [ev_hg_hs h _ (by omega) (by omega), if_neg hik] at q2
      rw [ev_hg_hs h _ (by omega) (by omega), if_neg hik]
      exact ⟨a, e2, q1, q2⟩
  · by_cases hkc : k ∈ cs
    · by_cases hk1 : k + 1 ∈ cs
      · have := hgd.2 (k + 1) hk1
        rw [ev_hg_hs h _ (by omega) (by omega), if_neg (by omega), ho] at this
        omega
      · have hcl : cs = [k] := by
          simp only [e2_Jc, List.mem_cons, List.not_mem_nil, or_false] at hcs
          rcases hcs with rfl | rfl | rfl | rfl | rfl | rfl <;> rcases hk with rfl | rfl <;> first | rfl | (exact absurd hkc (by decide)) | (exact absurd (by decide) hk1)
        subst hcl
        obtain ⟨t, n, rfl⟩ := hf
        refine ⟨s, fun _ => f, hr, hs, fun i hi => ?_, ⟨fun z => absurd (show (1 : Nat) = 4 from z) (by decide), hfs⟩⟩
        have hi : i < 1 := hi
        have : i = 0 := by omega
        subst this
        refine ⟨t, n, ?_⟩
        show ((ws.set k (q, _))[k]?).map Prod.snd = _
        rw [List.getElem?_set, if_pos rfl, if_pos hl]
        rfl
    · have hlt := (e2_Jc_in hcs).2.2.2.2
      have h0m := (e2_Jc_in hcs).1
      have hsame : ∀ i ∈ cs, ev_hg (ev_hs h k (999, [])) i = ev_hg (ev_hs h k (57, l)) i := fun i hi => by
        have := hlt i hi
        have hne : i ≠ k := fun z => hkc (by rw [← z]; exact hi)
        rw [ev_hg_hs h _ (by omega) (by omega), if_neg hne, ev_hg_hs h _ (by omega) (by omega), if_neg hne]
      exact h6 cs hcs ⟨by rw [hsame _ h0m]; exact hgd.1, fun i hi => by rw [hsame i hi]; exact hgd.2 i hi⟩
/-- the world changed in a cell of which the same can be said as before -/
theorem e2_wo.keep {D : va_G} {cA : e2_cA} {A : Nat → Prop} {ads r : List Nat} {ws : va_W} {h : ev_H} {H H1 : Heap} (hw : e2_wo D cA A ads r ws h H) {k q : Nat} {e e' : va_E} (hk : k < 133) (hq : ws[k]? = some (q, e)) (hc : e2_relC cA ads r (ev_hg h k).1 (ev_hg h k).2 e') (hP : va_P D en_classes (ws.set k (q, e')) H1) (hD : va_D A (ws.set k (q, e'))) (ht : (ev_hg h k).1 < 57 := by omega) : e2_wo D cA A ads r (ws.set k (q, e')) h H1 := by
  have h0 := hw.set hk hq _ _ hc hP hD (Or.inl ht)
  obtain ⟨h1, h2, h3, h4, h5, h6⟩ := h0
  refine ⟨h1, h2, fun i hi => ?_, h4, h5, h6.tags fun i hi hg => ?_⟩
  rotate_left
  · rw [ev_hg_hs h _ (by omega) (by omega)]
    by_cases hik : i = k
    · rw [if_pos hik, hik]
    · rw [if_neg hik]
  obtain ⟨a, e2, q1, q2⟩ := h3 i hi
  refine ⟨a, e2, q1, ?_⟩
  rw [ev_hg_hs h _ (by omega) (by omega)] at q2
  by_cases hik : i = k
  · subst hik
    rw [if_pos rfl] at q2
    exact q2
  · rw [if_neg hik] at q2
    exact q2
def e2_fr (ads r : List Nat) (nL : Nat) (al : List ev_V) (ls : Array Slot) : Prop :=
  al.length = nL ∧ ∃ lv, lv_has ls nL lv ∧ ∀ (i : Nat) (v : ev_V), al[i]? = some v → v.1 ≠ 9 → v.1 ≠ 7 ∧ ∃ w, (i, w) ∈ lv ∧ e2_rel ads r v w
theorem e2_fr.mono {ads r r' : List Nat} {nL : Nat} {al : List ev_V} {ls : Array Slot} (h : e2_fr ads r nL al ls) (hp : ∃ x, r' = r ++ x) : e2_fr ads r' nL al ls := by
  obtain ⟨h1, lv, h2, h3⟩ := h
  exact ⟨h1, lv, h2, fun i v hi hv => by obtain ⟨h7, w, q1, q2⟩ := h3 i v hi hv; exact ⟨h7, w, q1, q2.mono hp⟩⟩
theorem e2_fr.get {ads r : List Nat} {nL : Nat} {al : List ev_V} {ls : Array Slot} (h : e2_fr ads r nL al ls) {i : Nat} {v : ev_V} (hi : al[i]? = some v) (hv : v.1 ≠ 9) : ∃ w, ls[i]? = some (.val w) ∧ e2_rel ads r v w ∧ v.1 ≠ 7 := by
  obtain ⟨h1, lv, h2, h3⟩ := h
  obtain ⟨h7, w, q1, q2⟩ := h3 i v hi hv
  exact ⟨w, h2.2.2 (i, w) q1, q2, h7⟩
/-- a local gets a name -/
theorem e2_fr.name {ads r r' : List Nat} {nL : Nat} {al : List ev_V} {ls : Array Slot} (h : e2_fr ads r nL al ls) (hp : ∃ x, r' = r ++ x) {i : Nat} {v v' : ev_V} (hi : al[i]? = some v) (hv : v.1 ≠ 9) (h7 : v'.1 ≠ 7) (hx : ∀ w, e2_rel ads r v w → ls[i]? = some (.val w) → e2_rel ads r' v' w) : e2_fr ads r' nL (al.set i v') ls := by
  obtain ⟨h1, lv, h2, h3⟩ := h
  refine ⟨by rw [List.length_set]; exact h1, lv, h2, fun j u hj hu => ?_⟩
  rw [List.getElem?_set] at hj
  by_cases hij : i = j
  · subst hij
    rw [if_pos rfl] at hj
    split at hj
    · cases hj
      obtain ⟨-, w, q1, q2⟩ := h3 i v hi hv
      exact ⟨h7, w, q1, hx w q2 (h2.2.2 (i, w) q1)⟩
    · cases hj
  · rw [if_neg hij] at hj
    obtain ⟨g7, w, q1, q2⟩ := h3 j u hj hu
    exact ⟨g7, w, q1, q2.mono hp⟩
theorem e2_nl_t {al : List ev_V} {i : Nat} {k : Bool} (hh : e2_nl al i k = true) : k = true ∧ ∀ (j : Nat) (v : ev_V), j + 1 = i → al[j]? = some v → e2_isL v.1 = false := by
  cases i with
  | zero => exact ⟨hh, fun j v hj => by omega⟩
  | succ m =>
    obtain ⟨v, e1, h1⟩ := e2_get_t (show e2_get al m (fun v => e2_if (!(e2_isL v.1)) k) = true from hh)
    obtain ⟨h2, h3⟩ := e2_if_t h1
    refine ⟨h3, fun j u hj hu => ?_⟩
    have : j = m := by omega
    subst this
    rw [e1] at hu
    cases hu
    simpa using h2
/-- a local of one word is set -/
theorem e2_fr.set {ads r : List Nat} {nL : Nat} {al : List ev_V} {ls' : Array Slot} {lv : List (Nat × Value)} (h1 : al.length = nL) (h3 : ∀ (i : Nat) (v : ev_V), al[i]? = some v → v.1 ≠ 9 → v.1 ≠ 7 ∧ ∃ w, (i, w) ∈ lv ∧ e2_rel ads r v w) {k : Nat} {v : ev_V} {w : Value} (hl : ∀ (j : Nat) (v : ev_V), j + 1 = k → al[j]? = some v → e2_isL v.1 = false) (h7 : v.1 ≠ 7) (hv : e2_rel ads r v w) (hh : lv_has ls' nL ((k, w) :: lv.filter (fun q => !(q.1 == k) && !(q.1 + 1 == k && q.2.category == 2)))) : e2_fr ads r nL (al.set k v) ls' := by
  refine ⟨by rw [List.length_set]; exact h1, _, hh, fun i v' hi hv' => ?_⟩
  rw [List.getElem?_set] at hi
  by_cases hik : k = i
  · subst hik
    rw [if_pos rfl] at hi
    split at hi
    · cases hi
      exact ⟨h7, w, List.mem_cons_self, hv⟩
    · cases hi
  · rw [if_neg hik] at hi
    obtain ⟨g7, w', q1, q2⟩ := h3 i v' hi hv'
    refine ⟨g7, w', List.mem_cons_of_mem _ (List.mem_filter.mpr ⟨q1, ?_⟩), q2⟩
    have e1 : (i == k) = false := by simpa using fun z => hik z.symm
    by_cases hs : i + 1 = k
    · have hc := q2.cat1 (hl i v' hs hi) g7
      simp [e1, hc]
    · have e2 : (i + 1 == k) = false := by simpa using hs
      simp [e1, e2]
/-- a local of two words is set -/
theorem e2_fr.setL {ads r : List Nat} {nL : Nat} {al : List ev_V} {ls' : Array Slot} {lv : List (Nat × Value)} (h1 : al.length = nL) (h3 : ∀ (i : Nat) (v : ev_V), al[i]? = some v → v.1 ≠ 9 → v.1 ≠ 7 ∧ ∃ w, (i, w) ∈ lv ∧ e2_rel ads r v w) {k : Nat} {v : ev_V} {w : Value} (hl : ∀ (j : Nat) (v : ev_V), j + 1 = k → al[j]? = some v → e2_isL v.1 = false) (h7 : v.1 ≠ 7) (hv : e2_rel ads r v w) (hh : lv_has ls' nL ((k, w) :: lv.filter (fun q => !(q.1 == k) && (!(q.1 == k + 1) && !(q.1 + 1 == k && q.2.category == 2))))) : e2_fr ads r nL ((al.set k v).set (k + 1) (9, 0, 0)) ls' := by
  refine ⟨by rw [List.length_set, List.length_set]; exact h1, _, hh, fun i v' hi hv' => ?_⟩
  rw [List.getElem?_set] at hi
  by_cases hik1 : k + 1 = i
  · rw [if_pos hik1] at hi
    split at hi
    · cases hi
      exact absurd rfl hv'
    · cases hi
  · rw [if_neg hik1, List.getElem?_set] at hi
    by_cases hik : k = i
    · subst hik
      rw [if_pos rfl] at hi
      split at hi
      · cases hi
        exact ⟨h7, w, List.mem_cons_self, hv⟩
      · cases hi
    · rw [if_neg hik] at hi
      obtain ⟨g7, w', q1, q2⟩ := h3 i v' hi hv'
      refine ⟨g7, w', List.mem_cons_of_mem _ (List.mem_filter.mpr ⟨q1, ?_⟩), q2⟩
      have e1 : (i == k) = false := by simpa using fun z => hik z.symm
      have e3 : (i == k + 1) = false := by simpa using fun z => hik1 z.symm
      by_cases hs : i + 1 = k
      · have hc := q2.cat1 (hl i v' hs hi) g7
        simp [e1, e3, hc]
      · have e2 : (i + 1 == k) = false := by simpa using hs
        simp [e1, e2, e3]
section E2Ops
variable {p : Program} {l : Launch} {e : Env} {R : Room} {s : State} {m : MethodId} {args : Array Value} {below : List Frame} {meth : Method} {c : Code} {Q : State → Prop}
variable {cc : ByteArray} {own : String} {nL : Nat} {D : va_G} {cA : e2_cA} {A : Nat → Prop} {ads r0 : List Nat} {d : Nat} {call : e2_Call} {F : e2_F} {pc len : Nat}
/-- the two texts of the class, as the Statement gives them: their cells lie outside A -/
def e2_slen : List Nat := [91, 11]
def e2_sbyt : List (List Int32) := [[115, 105, 122, 101, 32, 116, 104, 105, 110, 103, 32, 115, 105, 103, 110, 32, 110, 101, 118, 101, 114, 32, 98, 97, 114, 110, 32, 119, 101, 105, 103, 104, 32, 103, 114, 111, 119, 32, 100, 114, 97, 119, 32, 97, 116, 32, 100, 111, 101, 115, 32, 111, 114, 32, 97, 110, 100, 32, 110, 111, 116, 32, 108, 111, 110, 103, 32, 112, 108, 97, 99, 101, 32, 121, 101, 97, 114, 32, 109, 117, 99, 104, 32, 97, 103, 101, 32, 100, 114, 121, 32], [59, 40, 41, 60, 62, 61, 43, 45, 42, 47, 37]]
def e2_tx0 : String := "size thing sign never barn weigh grow draw at does or and not long place year much age dry "
def e2_tx1 : String := ";()<>=+-*/%"
def e2_St (A : Nat → Prop) (U : State) (H : Heap) : Prop := va_Z "java/lang/String" "COMPACT_STRINGS" "Z" (.int 1) A U H ∧ va_Zq "jdk/internal/util/Preconditions" "SIOOBE_FORMATTER" "Ljava/util/function/BiFunction;" A U H ∧ ∃ adK adV : Nat → Nat, vk_S 2 e2_slen e2_sbyt adK adV A U H ∧ vk_R "MeadowSigns$Tape" 63 e2_tx0 (adK 0) U ∧ vk_R "MeadowSigns$Tape" 73 e2_tx1 (adK 1) U
theorem e2_St.into {A B : Nat → Prop} {s U : State} {H : Heap} {locs : List Loc} (h : e2_St A s s.heap) (hS : va_S A s.heap H locs) (hW : s.WarmedH U.vm) (hU : U.heap = H) (hB : ∀ q, B q → A q) : e2_St B U U.heap := by
  obtain ⟨h1, hq, adK, adV, h2, h3, h4⟩ := h
  rw [hU]
  exact ⟨((h1.moved hW.alike).kept hS.2.1).narrow hB, ((hq.moved hW.alike).kept hS.2.1).narrow hB, adK, adV, ((h2.moved hW.alike).kept hS.2.1).narrow hB, h3.warm hW, h4.warm hW⟩
theorem e2_St.same {A : Nat → Prop} {s U : State} (h : e2_St A s s.heap) (hv : U.vm = s.vm) (hh : U.heap = s.heap) : e2_St A U U.heap := by
  obtain ⟨h1, hq, adK, adV, h2, h3, h4⟩ := h
  have ha : s.vm.Alike U.vm := by rw [hv]; exact Vm.Alike.refl _
  rw [hh]
  exact ⟨h1.moved ha, hq.moved ha, adK, adV, h2.moved ha, h3.same hv, h4.same hv⟩
def e2_cx (p : Program) (R : Room) (s : State) (m : MethodId) (args : Array Value) (c : Code) (cc : ByteArray) (own : String) (nL : Nat) (D : va_G) (cA : e2_cA) (A : Nat → Prop) (d : Nat) : Prop :=
  p.tables.exec = Jvm.exec ∧ c.code = cc ∧ (∀ w ∈ en_WS, w.before args s = true) ∧ s.vm.findClass own = some m.cls ∧ va_K D en_classes (e2_tys cA) s ∧ (∀ q, s.heap.size ≤ q → A q) ∧ c.maxLocals = nL ∧ R.frames = d + 1 ∧ R.locals = 60 * (d + 1) ∧ en_N s ∧ e2_St A s s.heap
def e2_gd (p : Program) (l : Launch) (e : Env) (R : Room) (s : State) (m : MethodId) (args : Array Value) (below : List Frame) (meth : Method) (c : Code) (Q : State → Prop) (nL : Nat) (D : va_G) (cA : e2_cA) (A : Nat → Prop) (ads r0 : List Nat) (pc : Nat) (al st : List ev_V) (E : e2_E) (h : ev_H) : Prop :=
  ∀ (r : List Nat) (ws : va_W) (H : Heap) (locs : List Loc) (ls : Array Slot) (vs : List Value), (∃ x, r = r0 ++ x) → e2_sat r E → e2_wo D cA A ads r ws h H → va_S A s.heap H locs → e2_fr ads r nL al ls → e2_relS ads r st vs → W p l e R s m args below meth c H locs 0 0 Q (F0 m pc ls vs)
def e2_sd (p : Program) (l : Launch) (e : Env) (R : Room) (s : State) (m : MethodId) (args : Array Value) (below : List Frame) (meth : Method) (c : Code) (Q : State → Prop) (nL : Nat) (D : va_G) (cA : e2_cA) (A : Nat → Prop) (ads r0 : List Nat) (call : e2_Call) (F : e2_F) (op : e2_Op) (pc len : Nat) : Prop :=
  ∀ (Kn : e2_S) (Kj : Nat → e2_S) (al st : List ev_V) (E : e2_E) (h : ev_H), op call F Kn Kj al st E h = true →
    (∀ al st E h, Kn al st E h = true → e2_gd p l e R s m args below meth c Q nL D cA A ads r0 (pc + len) al st E h) →
    (∀ t al st E h, Kj t al st E h = true → e2_gd p l e R s m args below meth c Q nL D cA A ads r0 t al st E h) → e2_gd p l e R s m args below meth c Q nL D cA A ads r0 pc al st E h
theorem e2_ext {r0 r r' : List Nat} (h1 : ∃ x, r = r0 ++ x) (h2 : ∃ x, r' = r ++ x) : ∃ x, r' = r0 ++ x := by
  obtain ⟨x, rfl⟩ := h1
  obtain ⟨y, rfl⟩ := h2
  exact ⟨x ++ y, by rw [List.append_assoc]⟩
theorem e2_I7 {t : Nat} (h : e2_isI t = true) : t ≠ 7 ∧ t ≠ 9 := by
  rcases e2_isI_cases h with z | z | z <;> omega
theorem e2_L7 {t : Nat} (h : e2_isL t = true) : t ≠ 7 ∧ t ≠ 9 := by
  rcases e2_isL_cases h with z | z | z <;> omega
theorem e2s_push {v : ev_V} {w : Value} (h7 : v.1 ≠ 7) (hw : ∀ ads r, e2_rel ads r v w) (hrow : ∀ (H : Heap) (locs : List Loc) (k n : Nat) (ls : Array Slot) (rest : List Value), W p l e R s m args below meth c H locs k n Q (F0 m (pc + len) ls (w :: rest)) → W p l e R s m args below meth c H locs k n Q (F0 m pc ls rest)) : e2_sd p l e R s m args below meth c Q nL D cA A ads r0 call F (o2_push v) pc len := by
  intro Kn Kj al st E h hh hn hj r ws H locs ls vs hp hs hwo hS hfr hst
  exact hrow _ _ _ _ _ _ (hn _ _ _ _ hh r ws H locs ls (w :: vs) hp hs hwo hS hfr ⟨hw ads r, h7, hst⟩)
theorem e2s_iload {i : Nat} (hrow : ∀ (H : Heap) (locs : List Loc) (k n : Nat) (ls : Array Slot) (rest : List Value) (x : Int32), ls[i]? = some (.val (.int x)) → W p l e R s m args below meth c H locs k n Q (F0 m (pc + len) ls (.int x :: rest)) → W p l e R s m args below meth c H locs k n Q (F0 m pc ls rest)) : e2_sd p l e R s m args below meth c Q nL D cA A ads r0 call F (o2_iload i) pc len := by
  intro Kn Kj al st E h hh hn hj r ws H locs ls vs hp hs hwo hS hfr hst
  obtain ⟨v, e1, hh1⟩ := e2_get_t hh
  have hh1 : e2_el (Nat.ble v.1 1) (Kn al (v :: st) E h) (e2_if (Nat.beq v.1 11 || Nat.beq v.1 13) (e2_nm E v fun v' E' => e2_setK al i v' fun al' => Kn al' (v' :: st) E' h)) = true := hh1
  rcases e2_el_t hh1 with ⟨t1, hh2⟩ | ⟨-, hh2⟩
  · have t1 : v.1 ≤ 1 := Nat.le_of_ble_eq_true t1
    obtain ⟨w, q1, q2, q3⟩ := hfr.get e1 (by omega)
    obtain ⟨x, rfl⟩ := q2.int (by omega)
    exact hrow _ _ _ _ _ _ x q1 (hn _ _ _ _ hh2 r ws H locs ls _ hp hs hwo hS hfr ⟨q2, q3, hst⟩)
  · obtain ⟨t2, hh3⟩ := e2_if_t hh2
    have t2 : v.1 = 11 ∨ v.1 = 13 := by
      simp only [Bool.or_eq_true] at t2
      rcases t2 with z | z
      · exact Or.inl (Nat.eq_of_beq_eq_true z)
      · exact Or.inr (Nat.eq_of_beq_eq_true z)
    obtain ⟨v', E', hh4, hk, hx⟩ := e2_nm_t hh3
    obtain ⟨-, hh5⟩ := e2_setK_t hh4
    obtain ⟨w, q1, q2, q3⟩ := hfr.get e1 (by omega)
    obtain ⟨x, rfl⟩ := q2.int (by omega)
    obtain ⟨r', hp', hs', hr'⟩ := hx ads r _ hs q2
    have h7 : v'.1 ≠ 7 := by rcases hk with ⟨k1, -⟩ | ⟨-, k1⟩ | ⟨-, -, k1, k2, -⟩ <;> omega
    exact hrow _ _ _ _ _ _ x q1 (hn _ _ _ _ hh5 r' ws H locs ls _ (e2_ext hp hp') hs' (hwo.mono hp') hS (hfr.name hp' e1 (by omega) h7 (fun w _ hw => by rw [q1] at hw; cases hw; exact hr')) ⟨hr', h7, hst.mono hp'⟩)
theorem e2s_lload {i : Nat} (hrow : ∀ (H : Heap) (locs : List Loc) (k n : Nat) (ls : Array Slot) (rest : List Value) (x : Int64), ls[i]? = some (.val (.long x)) → W p l e R s m args below meth c H locs k n Q (F0 m (pc + len) ls (.long x :: rest)) → W p l e R s m args below meth c H locs k n Q (F0 m pc ls rest)) : e2_sd p l e R s m args below meth c Q nL D cA A ads r0 call F (o2_lload i) pc len := by
  intro Kn Kj al st E h hh hn hj r ws H locs ls vs hp hs hwo hS hfr hst
  obtain ⟨v, e1, hh1⟩ := e2_get_t hh
  obtain ⟨t2, hh3⟩ := e2_if_t (show e2_if (e2_isL v.1) (e2_nm E v fun v' E' => e2_setK al i v' fun al' => Kn al' (v' :: st) E' h) = true from hh1)
  obtain ⟨v', E', hh4, hk, hx⟩ := e2_nm_t hh3
  obtain ⟨-, hh5⟩ := e2_setK_t hh4
  have t3 := e2_isL_cases t2
  obtain ⟨w, q1, q2, q3⟩ := hfr.get e1 (by omega)
  obtain ⟨x, rfl⟩ := q2.long t2
  obtain ⟨r', hp', hs', hr'⟩ := hx ads r _ hs q2
  have h7 : v'.1 ≠ 7 := by
    rcases hk with ⟨k1, -⟩ | ⟨k0, k1⟩ | ⟨k0, -, -, -, -⟩
    · omega
    · omega
    · rw [k0]; omega
  exact hrow _ _ _ _ _ _ x q1 (hn _ _ _ _ hh5 r' ws H locs ls _ (e2_ext hp hp') hs' (hwo.mono hp') hS (hfr.name hp' e1 (by omega) h7 (fun w _ hw => by rw [q1] at hw; cases hw; exact hr')) ⟨hr', h7, hst.mono hp'⟩)
theorem e2s_aload {i : Nat} (hrow : ∀ (H : Heap) (locs : List Loc) (k n : Nat) (ls : Array Slot) (rest : List Value) (x : Nat), ls[i]? = some (.val (.ref x)) → W p l e R s m args below meth c H locs k n Q (F0 m (pc + len) ls (.ref x :: rest)) → W p l e R s m args below meth c H locs k n Q (F0 m pc ls rest)) : e2_sd p l e R s m args below meth c Q nL D cA A ads r0 call F (o2_aload i) pc len := by
  intro Kn Kj al st E h hh hn hj r ws H locs ls vs hp hs hwo hS hfr hst
  obtain ⟨v, e1, hh1⟩ := e2_get_t hh
  obtain ⟨t2, hh3⟩ := e2_if_t (show e2_if (Nat.beq v.1 2) (Kn al (v :: st) E h) = true from hh1)
  have t2 : v.1 = 2 := Nat.eq_of_beq_eq_true t2
  obtain ⟨w, q1, q2, q3⟩ := hfr.get e1 (by omega)
  obtain ⟨x, -, rfl⟩ := q2.ref t2
  exact hrow _ _ _ _ _ _ x q1 (hn _ _ _ _ hh3 r ws H locs ls _ hp hs hwo hS hfr ⟨q2, q3, hst⟩)
theorem e2s_istore {i : Nat} (hrow : ∀ (H : Heap) (locs : List Loc) (k n : Nat) (ls : Array Slot) (lv : List (Nat × Value)) (rest : List Value) (x : Int32), lv_has ls nL lv → i < nL → (∀ ls' : Array Slot, lv_has ls' nL ((i, .int x) :: lv.filter (fun q => !(q.1 == i) && !(q.1 + 1 == i && q.2.category == 2))) → W p l e R s m args below meth c H locs k n Q (F0 m (pc + len) ls' rest)) → W p l e R s m args below meth c H locs k n Q (F0 m pc ls (.int x :: rest))) : e2_sd p l e R s m args below meth c Q nL D cA A ads r0 call F (o2_istore i) pc len := by
  intro Kn Kj al st E h hh hn hj r ws H locs ls vs hp hs hwo hS hfr hst
  obtain ⟨v, st', rfl, hh1⟩ := e2_1_t hh
  obtain ⟨t2, hh2⟩ := e2_if_t (show e2_if (e2_isI v.1) (e2_nl al i (e2_setK al i v fun al' => Kn al' st' E h)) = true from hh1)
  obtain ⟨hh3, hl⟩ := e2_nl_t hh2
  obtain ⟨g1, hh4⟩ := e2_setK_t hh3
  have hq := hst.cons
  clear hst
  obtain ⟨w, vs, rfl, q2, q7, hst⟩ := hq
  obtain ⟨x, rfl⟩ := q2.intI t2
  obtain ⟨f1, lv, f2, f3⟩ := hfr
  exact hrow _ _ _ _ _ lv _ x f2 (by omega) fun ls' hls' => hn _ _ _ _ hh4 r ws H locs ls' _ hp hs hwo hS (e2_fr.set f1 f3 hl q7 q2 hls') hst
theorem e2s_astore {i : Nat} (hrow : ∀ (H : Heap) (locs : List Loc) (k n : Nat) (ls : Array Slot) (lv : List (Nat × Value)) (rest : List Value) (x : Nat), lv_has ls nL lv → i < nL → (∀ ls' : Array Slot, lv_has ls' nL ((i, .ref x) :: lv.filter (fun q => !(q.1 == i) && !(q.1 + 1 == i && q.2.category == 2))) → W p l e R s m args below meth c H locs k n Q (F0 m (pc + len) ls' rest)) → W p l e R s m args below meth c H locs k n Q (F0 m pc ls (.ref x :: rest))) : e2_sd p l e R s m args below meth c Q nL D cA A ads r0 call F (o2_astore i) pc len := by
  intro Kn Kj al st E h hh hn hj r ws H locs ls vs hp hs hwo hS hfr hst
  obtain ⟨v, st', rfl, hh1⟩ := e2_1_t hh
  obtain ⟨t2, hh2⟩ := e2_if_t (show e2_if (Nat.beq v.1 2) (e2_nl al i (e2_setK al i v fun al' => Kn al' st' E h)) = true from hh1)
  obtain ⟨hh3, hl⟩ := e2_nl_t hh2
  obtain ⟨g1, hh4⟩ := e2_setK_t hh3
  have hq := hst.cons
  clear hst
  obtain ⟨w, vs, rfl, q2, q7, hst⟩ := hq
  obtain ⟨x, -, rfl⟩ := q2.ref (Nat.eq_of_beq_eq_true t2)
  obtain ⟨f1, lv, f2, f3⟩ := hfr
  exact hrow _ _ _ _ _ lv _ x f2 (by omega) fun ls' hls' => hn _ _ _ _ hh4 r ws H locs ls' _ hp hs hwo hS (e2_fr.set f1 f3 hl q7 q2 hls') hst
theorem e2s_lstore {i : Nat} (hrow : ∀ (H : Heap) (locs : List Loc) (k n : Nat) (ls : Array Slot) (lv : List (Nat × Value)) (rest : List Value) (x : Int64), lv_has ls nL lv → i + 1 < nL → (∀ ls' : Array Slot, lv_has ls' nL ((i, .long x) :: lv.filter (fun q => !(q.1 == i) && (!(q.1 == i + 1) && !(q.1 + 1 == i && q.2.category == 2)))) → W p l e R s m args below meth c H locs k n Q (F0 m (pc + len) ls' rest)) → W p l e R s m args below meth c H locs k n Q (F0 m pc ls (.long x :: rest))) : e2_sd p l e R s m args below meth c Q nL D cA A ads r0 call F (o2_lstore i) pc len := by
  intro Kn Kj al st E h hh hn hj r ws H locs ls vs hp hs hwo hS hfr hst
  obtain ⟨v, st', rfl, hh1⟩ := e2_1_t hh
  obtain ⟨t2, hh2⟩ := e2_if_t (show e2_if (e2_isL v.1) (e2_nl al i (e2_setK al i v fun al' => e2_setK al' (Nat.succ i) (9, 0, 0) fun al'' => Kn al'' st' E h)) = true from hh1)
  obtain ⟨hh3, hl⟩ := e2_nl_t hh2
  obtain ⟨g1, hh4⟩ := e2_setK_t hh3
  obtain ⟨g2, hh5⟩ := e2_setK_t hh4
  rw [List.length_set] at g2
  have hq := hst.cons
  clear hst
  obtain ⟨w, vs, rfl, q2, q7, hst⟩ := hq
  obtain ⟨x, rfl⟩ := q2.long t2
  obtain ⟨f1, lv, f2, f3⟩ := hfr
  exact hrow _ _ _ _ _ lv _ x f2 (show i + 1 < nL by omega) fun ls' hls' => hn _ _ _ _ hh5 r ws H locs ls' _ hp hs hwo hS (e2_fr.setL f1 f3 hl q7 q2 hls') hst
theorem e2s_iinc {i n : Nat} (hrow : ∀ (H : Heap) (locs : List Loc) (k n' : Nat) (ls : Array Slot) (lv : List (Nat × Value)) (rest : List Value) (x : Int32), lv_has ls nL lv → (i, Value.int x) ∈ lv → i < nL → (∀ ls' : Array Slot, lv_has ls' nL ((i, .int (x + ev_i n)) :: lv.filter (fun q => !(q.1 == i) && !(q.1 + 1 == i && q.2.category == 2))) → W p l e R s m args below meth c H locs k n' Q (F0 m (pc + len) ls' rest)) → W p l e R s m args below meth c H locs k n' Q (F0 m pc ls rest)) : e2_sd p l e R s m args below meth c Q nL D cA A ads r0 call F (o2_iinc i n) pc len := by
  intro Kn Kj al st E h hh hn hj r ws H locs ls vs hp hs hwo hS hfr hst
  obtain ⟨v, e1, hh1⟩ := e2_get_t hh
  obtain ⟨i1, -, cv, hh2, ci, hc⟩ := e2_bin_t tr_add_ok hh1
  obtain ⟨hh3, hl⟩ := e2_nl_t hh2
  obtain ⟨g1, hh4⟩ := e2_setK_t hh3
  obtain ⟨f1, lv, f2, f3⟩ := hfr
  obtain ⟨-, w, q1, q2⟩ := f3 i _ e1 (e2_I7 i1).2
  obtain ⟨x, rfl⟩ := q2.intI i1
  exact hrow _ _ _ _ _ lv _ x f2 q1 (by omega) fun ls' hls' => hn _ _ _ _ hh4 r ws H locs ls' _ hp hs hwo hS (e2_fr.set f1 f3 hl (e2_I7 ci).1 (hc ads r x (ev_i n) hs q2 (e2_rel.of ads r n 0)) hls') hst
theorem e2s_bin {o : Int32 → Int32 → Int32} {tr : ev_V → ev_V → Nat → Nat → Nat → Nat → ev_V} (ht : e2_tro o tr) (hrow : ∀ (H : Heap) (locs : List Loc) (k n : Nat) (ls : Array Slot) (rest : List Value) (x y : Int32), W p l e R s m args below meth c H locs k n Q (F0 m (pc + len) ls (.int (o x y) :: rest)) → W p l e R s m args below meth c H locs k n Q (F0 m pc ls (.int y :: .int x :: rest))) : e2_sd p l e R s m args below meth c Q nL D cA A ads r0 call F (o2_bin o tr) pc len := by
  intro Kn Kj al st E h hh hn hj r ws H locs ls vs hp hs hwo hS hfr hst
  obtain ⟨vb, va, st', rfl, hh1⟩ := e2_2_t hh
  obtain ⟨i1, i2, cv, hh2, ci, hc⟩ := e2_bin_t ht hh1
  have hq := hst.cons
  clear hst
  obtain ⟨w, vs, rfl, q2, -, hst⟩ := hq
  have hq := hst.cons
  clear hst
  obtain ⟨w', vs, rfl, q3, -, hst⟩ := hq
  obtain ⟨y, rfl⟩ := q2.intI i2
  obtain ⟨x, rfl⟩ := q3.intI i1
  exact hrow _ _ _ _ _ _ x y (hn _ _ _ _ hh2 r ws H locs ls _ hp hs hwo hS hfr ⟨hc ads r x y hs q3 q2, (e2_I7 ci).1, hst⟩)
theorem e2s_div {o : Int32 → Int32 → Int32} {tr : ev_V → ev_V → Nat → Nat → Nat → Nat → ev_V} (ht : e2_tro o tr) (hrow : ∀ (H : Heap) (locs : List Loc) (k n : Nat) (ls : Array Slot) (rest : List Value) (x y : Int32), ¬ y = 0 → W p l e R s m args below meth c H locs k n Q (F0 m (pc + len) ls (.int (o x y) :: rest)) → W p l e R s m args below meth c H locs k n Q (F0 m pc ls (.int y :: .int x :: rest))) : e2_sd p l e R s m args below meth c Q nL D cA A ads r0 call F (o2_div o tr) pc len := by
  intro Kn Kj al st E h hh hn hj r ws H locs ls vs hp hs hwo hS hfr hst
  obtain ⟨vb, va, st', rfl, hh1⟩ := e2_2_t hh
  obtain ⟨-, z, w0, hh2, hz⟩ := e2_rng_t hh1
  obtain ⟨t1, hh3⟩ := e2_if_t hh2
  obtain ⟨i1, i2, cv, hh4, ci, hc⟩ := e2_bin_t ht hh3
  have hq := hst.cons
  clear hst
  obtain ⟨w, vs, rfl, q2, -, hst⟩ := hq
  have hq := hst.cons
  clear hst
  obtain ⟨w', vs, rfl, q3, -, hst⟩ := hq
  obtain ⟨y, rfl⟩ := q2.intI i2
  obtain ⟨x, rfl⟩ := q3.intI i1
  have hy : ¬ y = 0 := by
    intro hy
    obtain ⟨z1, z2⟩ := hz ads r y hs q2
    have hk := ev_key_eqI.mp hy
    rw [ev_key_0] at hk
    simp only [Bool.or_eq_true] at t1
    rcases t1 with t1 | t1 <;> have t1 := Nat.le_of_ble_eq_true t1 <;> omega
  exact hrow _ _ _ _ _ _ x y hy (hn _ _ _ _ hh4 r ws H locs ls _ hp hs hwo hS hfr ⟨hc ads r x y hs q3 q2, (e2_I7 ci).1, hst⟩)
theorem e2s_un {o : Int32 → Int32} {tr : Nat → Nat → ev_V} (ht : ∀ x y, e2_isI (tr x y).1 = true ∧ ∀ (ads r : List Nat) (X : Int32), x ≤ ev_key X → ev_key X ≤ y → e2_rel ads r (tr x y) (.int (o X))) (hrow : ∀ (H : Heap) (locs : List Loc) (k n : Nat) (ls : Array Slot) (rest : List Value) (x : Int32), W p l e R s m args below meth c H locs k n Q (F0 m (pc + len) ls (.int (o x) :: rest)) → W p l e R s m args below meth c H locs k n Q (F0 m pc ls (.int x :: rest))) : e2_sd p l e R s m args below meth c Q nL D cA A ads r0 call F (o2_un o tr) pc len := by
  intro Kn Kj al st E h hh hn hj r ws H locs ls vs hp hs hwo hS hfr hst
  obtain ⟨va, st', rfl, hh1⟩ := e2_1_t hh
  obtain ⟨i1, cv, hh2, ci, hc⟩ := e2_un_t ht hh1
  have hq := hst.cons
  clear hst
  obtain ⟨w', vs, rfl, q3, -, hst⟩ := hq
  obtain ⟨x, rfl⟩ := q3.intI i1
  exact hrow _ _ _ _ _ _ x (hn _ _ _ _ hh2 r ws H locs ls _ hp hs hwo hS hfr ⟨hc ads r x hs q3, (e2_I7 ci).1, hst⟩)
theorem e2s_dup (hrow : ∀ (H : Heap) (locs : List Loc) (k n : Nat) (ls : Array Slot) (rest : List Value) (w : Value), w.category = 1 → W p l e R s m args below meth c H locs k n Q (F0 m (pc + len) ls (w :: w :: rest)) → W p l e R s m args below meth c H locs k n Q (F0 m pc ls (w :: rest))) : e2_sd p l e R s m args below meth c Q nL D cA A ads r0 call F o2_dup pc len := by
  intro Kn Kj al st E h hh hn hj r ws H locs ls vs hp hs hwo hS hfr hst
  obtain ⟨va, st', rfl, hh1⟩ := e2_1_t hh
  obtain ⟨t1, hh2⟩ := e2_if_t (show e2_if (!(e2_isL va.1)) (Kn al (va :: va :: st') E h) = true from hh1)
  have hq := hst.cons
  clear hst
  obtain ⟨w', vs, rfl, q3, q7, hst⟩ := hq
  exact hrow _ _ _ _ _ _ _ (q3.cat1 (by simpa using t1) q7) (hn _ _ _ _ hh2 r ws H locs ls _ hp hs hwo hS hfr ⟨q3, q7, q3, q7, hst⟩)
theorem e2s_dup2 (hrow : ∀ (H : Heap) (locs : List Loc) (k n : Nat) (ls : Array Slot) (rest : List Value) (w w' : Value), w.category = 1 → w'.category = 1 → W p l e R s m args below meth c H locs k n Q (F0 m (pc + len) ls (w :: w' :: w :: w' :: rest)) → W p l e R s m args below meth c H locs k n Q (F0 m pc ls (w :: w' :: rest))) : e2_sd p l e R s m args below meth c Q nL D cA A ads r0 call F o2_dup2 pc len := by
  intro Kn Kj al st E h hh hn hj r ws H locs ls vs hp hs hwo hS hfr hst
  obtain ⟨va, vb, st', rfl, hh1⟩ := e2_2_t hh
  obtain ⟨t1, hh2⟩ := e2_if_t (show e2_if (!(e2_isL va.1)) (e2_if (!(e2_isL vb.1)) (Kn al (va :: vb :: va :: vb :: st') E h)) = true from hh1)
  obtain ⟨t2, hh3⟩ := e2_if_t hh2
  have hq := hst.cons
  clear hst
  obtain ⟨w', vs, rfl, q3, q7, hst⟩ := hq
  have hq := hst.cons
  clear hst
  obtain ⟨w, vs, rfl, q4, q8, hst⟩ := hq
  exact hrow _ _ _ _ _ _ _ _ (q3.cat1 (by simpa using t1) q7) (q4.cat1 (by simpa using t2) q8) (hn _ _ _ _ hh3 r ws H locs ls _ hp hs hwo hS hfr ⟨q3, q7, q4, q8, q3, q7, q4, q8, hst⟩)
theorem e2s_pop (hrow : ∀ (H : Heap) (locs : List Loc) (k n : Nat) (ls : Array Slot) (rest : List Value) (w : Value), w.category = 1 → W p l e R s m args below meth c H locs k n Q (F0 m (pc + len) ls rest) → W p l e R s m args below meth c H locs k n Q (F0 m pc ls (w :: rest))) : e2_sd p l e R s m args below meth c Q nL D cA A ads r0 call F o2_pop pc len := by
  intro Kn Kj al st E h hh hn hj r ws H locs ls vs hp hs hwo hS hfr hst
  obtain ⟨va, st', rfl, hh1⟩ := e2_1_t hh
  obtain ⟨t1, hh2⟩ := e2_if_t (show e2_if (!(e2_isL va.1)) (Kn al st' E h) = true from hh1)
  have hq := hst.cons
  clear hst
  obtain ⟨w', vs, rfl, q3, q7, hst⟩ := hq
  exact hrow _ _ _ _ _ _ _ (q3.cat1 (by simpa using t1) q7) (hn _ _ _ _ hh2 r ws H locs ls _ hp hs hwo hS hfr hst)
theorem e2s_icmp {cd : ClassFile.Cond} {t : Nat} (hrow : ∀ (H : Heap) (locs : List Loc) (k n : Nat) (ls : Array Slot) (rest : List Value) (x y : Int32), (ev_holds cd x y → W p l e R s m args below meth c H locs k n Q (F0 m t ls rest)) → (¬ ev_holds cd x y → W p l e R s m args below meth c H locs k n Q (F0 m (pc + len) ls rest)) → W p l e R s m args below meth c H locs k n Q (F0 m pc ls (.int y :: .int x :: rest))) : e2_sd p l e R s m args below meth c Q nL D cA A ads r0 call F (o2_icmp cd t) pc len := by
  intro Kn Kj al st E h hh hn hj r ws H locs ls vs hp hs hwo hS hfr hst
  obtain ⟨vb, va, st', rfl, hh1⟩ := e2_2_t hh
  obtain ⟨i1, i2, hc⟩ := e2_cmp_t hh1
  have hq := hst.cons
  clear hst
  obtain ⟨w, vs, rfl, q2, -, hst⟩ := hq
  have hq := hst.cons
  clear hst
  obtain ⟨w', vs, rfl, q3, -, hst⟩ := hq
  obtain ⟨y, rfl⟩ := q2.intI i2
  obtain ⟨x, rfl⟩ := q3.intI i1
  rcases hc ads r x y hs q3 q2 with ⟨z1, E', z2, z3⟩ | ⟨z1, E', z2, z3⟩
  · exact hrow _ _ _ _ _ _ x y (fun _ => hj _ _ _ _ _ z2 r ws H locs ls _ hp z3 hwo hS hfr hst) (fun z => absurd z1 z)
  · exact hrow _ _ _ _ _ _ x y (fun z => absurd z z1) (fun _ => hn _ _ _ _ z2 r ws H locs ls _ hp z3 hwo hS hfr hst)
theorem e2s_ifc {cd : ClassFile.Cond} {t : Nat} (hrow : ∀ (H : Heap) (locs : List Loc) (k n : Nat) (ls : Array Slot) (rest : List Value) (x : Int32), (ev_holds cd x 0 → W p l e R s m args below meth c H locs k n Q (F0 m t ls rest)) → (¬ ev_holds cd x 0 → W p l e R s m args below meth c H locs k n Q (F0 m (pc + len) ls rest)) → W p l e R s m args below meth c H locs k n Q (F0 m pc ls (.int x :: rest))) : e2_sd p l e R s m args below meth c Q nL D cA A ads r0 call F (o2_ifc cd t) pc len := by
  intro Kn Kj al st E h hh hn hj r ws H locs ls vs hp hs hwo hS hfr hst
  obtain ⟨⟨tg, i, u⟩, st', rfl, hh1⟩ := e2_1_t hh
  have hq := hst.cons
  clear hst
  obtain ⟨w', vs, rfl, q3, -, hst⟩ := hq
  rcases e2_el_t hh1 with ⟨t1, hh2⟩ | ⟨-, hh2⟩
  · have t1 : tg = 14 := Nat.eq_of_beq_eq_true t1
    clear hh hh1
    subst t1
    obtain ⟨x, rfl⟩ := q3.int (by simp)
    cases cd <;> simp only [] at hh2
    · rcases e2_z_t hh2 hs q3 with ⟨z1, E', z2, z3⟩ | ⟨z1, E', z2, z3⟩
      · exact hrow _ _ _ _ _ _ x (fun _ => hj _ _ _ _ _ z2 r ws H locs ls _ hp z3 hwo hS hfr hst) (fun z => absurd z1 z)
      · exact hrow _ _ _ _ _ _ x (fun z => absurd z z1) (fun _ => hn _ _ _ _ z2 r ws H locs ls _ hp z3 hwo hS hfr hst)
    · rcases e2_z_t hh2 hs q3 with ⟨z1, E', z2, z3⟩ | ⟨z1, E', z2, z3⟩
      · exact hrow _ _ _ _ _ _ x (fun z => absurd z1 z) (fun _ => hn _ _ _ _ z2 r ws H locs ls _ hp z3 hwo hS hfr hst)
      · exact hrow _ _ _ _ _ _ x (fun _ => hj _ _ _ _ _ z2 r ws H locs ls _ hp z3 hwo hS hfr hst) (fun z => absurd z1 z)
    all_goals exact absurd hh2 (by simp)
  · obtain ⟨i1, -, hc⟩ := e2_cmp_t hh2
    obtain ⟨x, rfl⟩ := q3.intI i1
    rcases hc ads r x 0 hs q3 (e2_rel.of ads r 0 0) with ⟨z1, E', z2, z3⟩ | ⟨z1, E', z2, z3⟩
    · exact hrow _ _ _ _ _ _ x (fun _ => hj _ _ _ _ _ z2 r ws H locs ls _ hp z3 hwo hS hfr hst) (fun z => absurd z1 z)
    · exact hrow _ _ _ _ _ _ x (fun z => absurd z z1) (fun _ => hn _ _ _ _ z2 r ws H locs ls _ hp z3 hwo hS hfr hst)
theorem e2s_goto {t : Nat} (hrow : ∀ (H : Heap) (locs : List Loc) (k n : Nat) (ls : Array Slot) (rest : List Value), W p l e R s m args below meth c H locs k n Q (F0 m t ls rest) → W p l e R s m args below meth c H locs k n Q (F0 m pc ls rest)) : e2_sd p l e R s m args below meth c Q nL D cA A ads r0 call F (o2_goto t) pc len := by
  intro Kn Kj al st E h hh hn hj r ws H locs ls vs hp hs hwo hS hfr hst
  exact hrow _ _ _ _ _ _ (hj _ _ _ _ _ hh r ws H locs ls vs hp hs hwo hS hfr hst)
end E2Ops
