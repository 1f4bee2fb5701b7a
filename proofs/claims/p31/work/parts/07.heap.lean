def ev_fits (kd : Nat) (w : Value) : Prop := match kd with
  | 0 => ∃ x : Int32, w = .int x
  | 1 => ∃ x : Int32, w = .int x ∧ (x = 0 ∨ x = 1)
  | 2 => w = .null ∨ ∃ a, w = .ref a
  | _ => ∃ x : Int64, w = .long x
theorem ev_kind_ok {kd : Nat} {v : ev_V} (h : ev_kind kd v.1 v.2.1 v.2.2 = true) {ads : List Nat} {w : Value} (hr : ev_rel ads v w) : ev_fits kd w := by
  obtain ⟨t, a, b⟩ := v
  match kd, h with
  | 0, h =>
    obtain ⟨x, rfl, -⟩ := hr.int (Nat.le_of_ble_eq_true h)
    exact ⟨x, rfl⟩
  | 1, h =>
    have h : (t = 0 ∧ a ≤ 1) ∨ (t = 1 ∧ 2147483648 ≤ a ∧ b ≤ 2147483649) := by
      simp only [ev_kind, Bool.or_eq_true, Bool.and_eq_true] at h
      rcases h with ⟨h1, h2⟩ | ⟨h1, h2, h3⟩
      · exact Or.inl ⟨Nat.eq_of_beq_eq_true h1, Nat.le_of_ble_eq_true h2⟩
      · exact Or.inr ⟨Nat.eq_of_beq_eq_true h1, Nat.le_of_ble_eq_true h2, Nat.le_of_ble_eq_true h3⟩
    obtain ⟨x, rfl, h1, h2⟩ := hr.int (by omega)
    refine ⟨x, rfl, ?_⟩
    rcases h with ⟨ht, ha⟩ | ⟨ht, ha, hb⟩
    · rw [h1 ht]
      have : a = 0 ∨ a = 1 := by omega
      rcases this with rfl | rfl
      · exact Or.inl rfl
      · exact Or.inr rfl
    · have hk := h2 ht
      have : ev_key x = 2147483648 ∨ ev_key x = 2147483649 := by omega
      rcases this with h | h
      · exact Or.inl (ev_key_eqI.mpr (h.trans ev_key_0.symm))
      · exact Or.inr (ev_key_eqI.mpr (h.trans (by decide +kernel)))
  | 2, h =>
    have h : t = 2 ∨ t = 3 := by
      simp only [ev_kind, Bool.or_eq_true] at h
      rcases h with h | h
      · exact Or.inl (Nat.eq_of_beq_eq_true h)
      · exact Or.inr (Nat.eq_of_beq_eq_true h)
    rcases h with rfl | rfl
    · obtain ⟨q, -, rfl⟩ := hr.ref rfl
      exact Or.inr ⟨q, rfl⟩
    · rcases hr with ⟨h0, h1⟩ | ⟨h0, h1⟩ | ⟨h0, h1⟩ | ⟨h0, h1⟩ | ⟨h0, h1⟩ | ⟨h0, h1⟩
      · exact absurd (show (3 : Nat) = 0 from h0) (by decide)
      · exact absurd (show (3 : Nat) = 1 from h0) (by decide)
      · exact absurd (show (3 : Nat) = 2 from h0) (by decide)
      · exact Or.inl h1
      · exact absurd (show (3 : Nat) = 4 from h0) (by decide)
      · exact absurd (show (3 : Nat) = 7 from h0) (by decide)
  | k + 3, h =>
    have h : t = 4 := Nat.eq_of_beq_eq_true h
    subst h
    rcases hr with ⟨h0, h1⟩ | ⟨h0, h1⟩ | ⟨h0, h1⟩ | ⟨h0, h1⟩ | ⟨h0, h1⟩ | ⟨h0, h1⟩
    · exact absurd (show (4 : Nat) = 0 from h0) (by decide)
    · exact absurd (show (4 : Nat) = 1 from h0) (by decide)
    · exact absurd (show (4 : Nat) = 2 from h0) (by decide)
    · exact absurd (show (4 : Nat) = 3 from h0) (by decide)
    · exact ⟨_, h1⟩
    · exact absurd (show (4 : Nat) = 7 from h0) (by decide)
theorem ev_relC.obj {cA : ev_cA} {ads : List Nat} {tag : Nat} {l : List ev_V} {e : va_E} (h : ev_relC cA ads tag l e) (ht : tag < 50) : ∃ vs, e = .inr (tag, vs) ∧ vs.length = l.length ∧ ∀ (j : Nat) (v : ev_V), l[j]? = some v → ∃ w, vs[j]? = some w ∧ ev_rel ads v w := by
  rcases h with ⟨-, h⟩ | ⟨h, -⟩ | ⟨h, -⟩ | ⟨h, -⟩
  · exact h
  · omega
  · omega
  · omega
theorem ev_relC.arr {cA : ev_cA} {ads : List Nat} {tag : Nat} {l : List ev_V} {e : va_E} (h : ev_relC cA ads tag l e) (ht : 50 ≤ tag) (ht2 : tag ≤ 52) : ∃ f : Nat → Int32, e = .inl (cA.1 (tag - 50), l.length, .inl f) ∧ ∀ (j : Nat) (v : ev_V), l[j]? = some v → ev_rel ads v (.int (f j)) := by
  rcases h with ⟨h, -⟩ | ⟨-, -, h⟩ | ⟨h, -⟩ | ⟨h, -⟩
  · omega
  · exact h
  · omega
  · omega
theorem ev_fill_eq {v : ev_V} : ∀ (n : Nat) (k : List ev_V → ev_R), ev_fill n v k = k (List.replicate n v) := by
  intro n
  induction n with
  | zero => intro k; rfl
  | succ n ih => intro k; exact ih (fun l => k (v :: l))
theorem ev_in {j n : Nat} (hj : j < 65536) (h : j < n) : vp_in (ev_i j) n := fun z => by
  rcases z with z | z
  · exact nI_pos (show j < 2 ^ 31 by omega) z
  · have e : (ev_i j).toNatClampNeg = j := nI_clamp (show j < 2 ^ 31 by omega)
    omega
theorem ev_cl {j : Nat} (hj : j < 65536) : (ev_i j).toNatClampNeg = j := nI_clamp (show j < 2 ^ 31 by omega)
theorem ev_sum8 {vs : List Value} (h : vs.length ≤ 4) : (vs.map fun v => v.category).sum ≤ 8 := by
  have key : ∀ l : List Value, (l.map fun v => v.category).sum ≤ 2 * l.length := by
    intro l
    induction l with
    | nil => simp
    | cons v l ih =>
      have hv : v.category ≤ 2 := by cases v <;> simp [Value.category]
      simp only [List.map_cons, List.sum_cons, List.length_cons]
      omega
  have := key vs
  omega
theorem ev_small_ok {ads : List Nat} : ∀ {r : List ev_V} {vs : List Value}, ev_relS ads r vs → ev_small r = true → (vs.map fun v => v.category).sum ≤ 8 := by
  intro r vs h hs
  have h8 : r.length ≤ 8 ∧ ev_one r = true := by
    unfold ev_small at hs
    cases hz : Nat.ble r.length 8 with
    | false => rw [hz] at hs; exact absurd hs (by simp)
    | true => rw [hz] at hs; exact ⟨Nat.le_of_ble_eq_true hz, hs⟩
  have key : ∀ {r : List ev_V} {vs : List Value}, ev_relS ads r vs → ev_one r = true → (vs.map fun v => v.category).sum = r.length := by
    intro r
    induction r with
    | nil => intro vs h _; rw [h.nil]; rfl
    | cons v r ih =>
      intro vs h h1
      obtain ⟨w, ws, rfl, g1, g2⟩ := h.cons
      have h1' : Bool.rec (motive := fun _ => Bool) false (ev_one r) (Nat.ble v.1 3) = true := h1
      cases hz : Nat.ble v.1 3 with
      | false => rw [hz] at h1'; exact absurd h1' (by simp)
      | true =>
        rw [hz] at h1'
        have := ih g2 h1'
        have hc := g1.cat (Nat.le_of_ble_eq_true hz)
        simp only [List.map_cons, List.sum_cons, List.length_cons]
        omega
  rw [key h h8.2]
  exact h8.1
section EvHeap
variable {p : Program} {l : Launch} {e : Env} {R : Room} {s : State} {m : MethodId} {args : Array Value} {below : List Frame} {meth : Method} {c : Code} {Q : State → Prop}
variable {cc : ByteArray} {own : String} {nL : Nat} {D : va_G} {cA : ev_cA} {A : Nat → Prop} {ads0 : List Nat} {n0 s0 d : Nat} {res : ev_V × Nat × Nat × ev_H} {call : ev_Call} {pc len : Nat}
theorem es_getf {ci k : Nat} (hci : ci < 50) (hrow : ∀ (H : Heap) (locs : List Loc) (k' n : Nat) (ls : Array Slot) (rest : List Value) (ws : va_W) (a q0 : Nat) (fs : List Value) (v : Value), va_P D en_classes ws H → ws[q0]? = some (a, .inr (ci, fs)) → fs[k]? = some v → W p l e R s m args below meth c H locs k' n Q (F0 m (pc + len) ls (v :: rest)) → W p l e R s m args below meth c H locs k' n Q (F0 m pc ls (.ref a :: rest))) : ev_sd p l e R s m args below meth c Q nL D cA A ads0 n0 s0 res call (eo_getf ci k) pc len := by
  intro Kn Kj al st ns nc h hh hn hj
  have hq := ev_1_some hh
  clear hh
  obtain ⟨vo, r, rfl, hh⟩ := hq
  have hq := ev_cell_some hh
  clear hh
  obtain ⟨t1, t2, hh⟩ := hq
  have hq := ev_if_some hh
  clear hh
  obtain ⟨t3, hh⟩ := hq
  have t3 : (ev_hg h vo.2.1).1 = ci := Nat.eq_of_beq_eq_true t3
  have hq := ev_get_some hh
  clear hh
  obtain ⟨v, t4, hh⟩ := hq
  obtain ⟨g1, g2, g3⟩ := hn _ _ _ _ _ hh
  refine ⟨g1, g2, fun ads ws H locs ls vs hp h0 h1 hwo hS hfr hst => ?_⟩
  have hq := hst.cons
  clear hst
  obtain ⟨w', vs, rfl, q3, hst⟩ := hq
  obtain ⟨q, e1, rfl⟩ := ev_rel.ref (t := vo.1) (a := vo.2.1) (b := vo.2.2) q3 t1
  obtain ⟨en, e2, e3⟩ := hwo.cell t2 e1
  obtain ⟨fs, rfl, e4, e5⟩ := e3.obj (by omega)
  obtain ⟨w, e6, e7⟩ := e5 k v t4
  rw [t3] at e2
  exact hrow _ _ _ _ _ _ ws q _ fs w hwo.2.2.2.2.1 e2 e6 (g3 ads ws H locs ls _ hp h0 h1 hwo hS hfr ⟨e7, hst⟩)
theorem es_putf {ci k kd : Nat} (hci : ci < 50) (hrow : ∀ (H : Heap) (locs : List Loc) (k' n : Nat) (ls : Array Slot) (rest : List Value) (ws : va_W) (a q0 : Nat) (fs : List Value) (v : Value), va_P D en_classes ws H → va_D A ws → va_S A s.heap H locs → ws[q0]? = some (a, .inr (ci, fs)) → k < fs.length → ev_fits kd v → (∀ (H1 : Heap) (locs1 : List Loc), va_P D en_classes (ws.set q0 (a, .inr (ci, fs.set k v))) H1 → va_D A (ws.set q0 (a, .inr (ci, fs.set k v))) → va_S A s.heap H1 locs1 → W p l e R s m args below meth c H1 locs1 k' n Q (F0 m (pc + len) ls rest)) → W p l e R s m args below meth c H locs k' n Q (F0 m pc ls (v :: .ref a :: rest))) : ev_sd p l e R s m args below meth c Q nL D cA A ads0 n0 s0 res call (eo_putf ci k kd) pc len := by
  intro Kn Kj al st ns nc h hh hn hj
  have hq := ev_2_some hh
  clear hh
  obtain ⟨v, vo, r, rfl, hh⟩ := hq
  have hq := ev_cell_some hh
  clear hh
  obtain ⟨t1, t2, hh⟩ := hq
  have hq := ev_if_some hh
  clear hh
  obtain ⟨t3, hh⟩ := hq
  have t3 : (ev_hg h vo.2.1).1 = ci := Nat.eq_of_beq_eq_true t3
  have hq := ev_if_some hh
  clear hh
  obtain ⟨t4, hh⟩ := hq
  have hq := ev_put_some hh
  clear hh
  obtain ⟨t5, hh⟩ := hq
  obtain ⟨g1, g2, g3⟩ := hn _ _ _ _ _ hh
  refine ⟨g1, g2, fun ads ws H locs ls vs hp h0 h1 hwo hS hfr hst => ?_⟩
  have hq := hst.cons
  clear hst
  obtain ⟨w, vs, rfl, q2, hst⟩ := hq
  have hq := hst.cons
  clear hst
  obtain ⟨w', vs, rfl, q3, hst⟩ := hq
  obtain ⟨q, e1, rfl⟩ := ev_rel.ref (t := vo.1) (a := vo.2.1) (b := vo.2.2) q3 t1
  obtain ⟨en, e2, e3⟩ := hwo.cell t2 e1
  obtain ⟨fs, rfl, e4, e5⟩ := e3.obj (by omega)
  rw [t3] at e2
  refine hrow _ _ _ _ _ _ ws q _ fs w hwo.2.2.2.2.1 hwo.2.2.2.2.2 hS e2 (by omega) (ev_kind_ok t4 q2) fun H1 locs1 hP hD hS1 => ?_
  refine g3 ads _ H1 locs1 ls _ hp h0 h1 (hwo.set t2 e2 _ _ ?_ hP hD) hS1 hfr hst
  refine Or.inl ⟨by omega, fs.set k w, by rw [t3], by rw [List.length_set, List.length_set]; exact e4, fun j v' hj' => ?_⟩
  rw [List.getElem?_set] at hj' ⊢
  by_cases hk : k = j
  · subst hk
    rw [if_pos rfl, if_pos t5] at hj'
    cases hj'
    rw [if_pos rfl, if_pos (by omega)]
    exact ⟨w, rfl, q2⟩
  · rw [if_neg hk] at hj' ⊢
    exact e5 j v' hj'
theorem es_ald {lo hi : Nat} (hlo : 50 ≤ lo) (hhi : hi ≤ 52) (hrow : ∀ (t : Nat), lo ≤ 50 + t → 50 + t ≤ hi → ∀ (H : Heap) (locs : List Loc) (k' n : Nat) (ls : Array Slot) (rest : List Value) (ws : va_W) (a q0 N : Nat) (f : Nat → Int32) (i : Int32), va_P D en_classes ws H → ws[q0]? = some (a, .inl (cA.1 t, N, .inl f)) → vp_in i N → W p l e R s m args below meth c H locs k' n Q (F0 m (pc + len) ls (.int (f i.toNatClampNeg) :: rest)) → W p l e R s m args below meth c H locs k' n Q (F0 m pc ls (.int i :: .ref a :: rest))) : ev_sd p l e R s m args below meth c Q nL D cA A ads0 n0 s0 res call (eo_ald lo hi) pc len := by
  intro Kn Kj al st ns nc h hh hn hj
  have hq := ev_2_some hh
  clear hh
  obtain ⟨vi, vo, r, rfl, hh⟩ := hq
  have hq := ev_cell_some hh
  clear hh
  obtain ⟨t1, t2, hh⟩ := hq
  have hq := ev_if_some hh
  clear hh
  obtain ⟨t3, hh⟩ := hq
  have hq := ev_if_some hh
  clear hh
  obtain ⟨t4, hh⟩ := hq
  have t3 : lo ≤ (ev_hg h vo.2.1).1 := Nat.le_of_ble_eq_true t3
  have t4 : (ev_hg h vo.2.1).1 ≤ hi := Nat.le_of_ble_eq_true t4
  have hq := ev_nat_some hh
  clear hh
  obtain ⟨b0, b1, hh⟩ := hq
  have hq := ev_get_some hh
  clear hh
  obtain ⟨v, b2, hh⟩ := hq
  obtain ⟨g1, g2, g3⟩ := hn _ _ _ _ _ hh
  refine ⟨g1, g2, fun ads ws H locs ls vs hp h0 h1 hwo hS hfr hst => ?_⟩
  have hq := hst.cons
  clear hst
  obtain ⟨w, vs, rfl, q2, hst⟩ := hq
  have hq := hst.cons
  clear hst
  obtain ⟨w', vs, rfl, q3, hst⟩ := hq
  obtain ⟨i, rfl, ei, -⟩ := ev_rel.int (t := vi.1) (a := vi.2.1) (b := vi.2.2) q2 (by omega)
  obtain ⟨q, e1, rfl⟩ := ev_rel.ref (t := vo.1) (a := vo.2.1) (b := vo.2.2) q3 t1
  obtain ⟨en, e2, e3⟩ := hwo.cell t2 e1
  obtain ⟨f, rfl, e5⟩ := e3.arr (by omega) (by omega)
  have ei := ei b0
  subst ei
  have hl := (List.getElem?_eq_some_iff.mp b2).1
  have e7 := e5 _ v b2
  refine hrow ((ev_hg h vo.2.1).1 - 50) (by omega) (by omega) _ _ _ _ _ _ ws q _ _ f _ hwo.2.2.2.2.1 e2 (ev_in b1 hl) (g3 ads ws H locs ls _ hp h0 h1 hwo hS hfr ⟨?_, hst⟩)
  rw [ev_cl b1]
  exact e7
theorem es_iast (hrow : ∀ (H : Heap) (locs : List Loc) (k' n : Nat) (ls : Array Slot) (rest : List Value) (ws : va_W) (a q0 N : Nat) (f : Nat → Int32) (i x : Int32), va_P D en_classes ws H → va_D A ws → va_S A s.heap H locs → ws[q0]? = some (a, .inl (cA.1 0, N, .inl f)) → vp_in i N → (∀ (H1 : Heap) (locs1 : List Loc), va_P D en_classes (ws.set q0 (a, .inl (cA.1 0, N, .inl (upd f i.toNatClampNeg x)))) H1 → va_D A (ws.set q0 (a, .inl (cA.1 0, N, .inl (upd f i.toNatClampNeg x)))) → va_S A s.heap H1 locs1 → W p l e R s m args below meth c H1 locs1 k' n Q (F0 m (pc + len) ls rest)) → W p l e R s m args below meth c H locs k' n Q (F0 m pc ls (.int x :: .int i :: .ref a :: rest))) : ev_sd p l e R s m args below meth c Q nL D cA A ads0 n0 s0 res call eo_iast pc len := by
  intro Kn Kj al st ns nc h hh hn hj
  have hq := ev_3_some hh
  clear hh
  obtain ⟨v, vi, vo, r, rfl, hh⟩ := hq
  have hq := ev_cell_some hh
  clear hh
  obtain ⟨t1, t2, hh⟩ := hq
  have hq := ev_if_some hh
  clear hh
  obtain ⟨t3, hh⟩ := hq
  have t3 : (ev_hg h vo.2.1).1 = 50 := Nat.eq_of_beq_eq_true t3
  have hq := ev_if_some hh
  clear hh
  obtain ⟨t4, hh⟩ := hq
  have t4 : v.1 ≤ 1 := Nat.le_of_ble_eq_true t4
  have hq := ev_nat_some hh
  clear hh
  obtain ⟨b0, b1, hh⟩ := hq
  have hq := ev_put_some hh
  clear hh
  obtain ⟨t5, hh⟩ := hq
  obtain ⟨g1, g2, g3⟩ := hn _ _ _ _ _ hh
  refine ⟨g1, g2, fun ads ws H locs ls vs hp h0 h1 hwo hS hfr hst => ?_⟩
  have hq := hst.cons
  clear hst
  obtain ⟨w0, vs, rfl, q1, hst⟩ := hq
  have hq := hst.cons
  clear hst
  obtain ⟨w, vs, rfl, q2, hst⟩ := hq
  have hq := hst.cons
  clear hst
  obtain ⟨w', vs, rfl, q3, hst⟩ := hq
  obtain ⟨x, rfl, -⟩ := ev_rel.int (t := v.1) (a := v.2.1) (b := v.2.2) q1 t4
  obtain ⟨i, rfl, ei, -⟩ := ev_rel.int (t := vi.1) (a := vi.2.1) (b := vi.2.2) q2 (by omega)
  obtain ⟨q, e1, rfl⟩ := ev_rel.ref (t := vo.1) (a := vo.2.1) (b := vo.2.2) q3 t1
  obtain ⟨en, e2, e3⟩ := hwo.cell t2 e1
  obtain ⟨f, rfl, e5⟩ := e3.arr (by omega) (by omega)
  have ei := ei b0
  subst ei
  have e2' : ws[vo.2.1]? = some (q, .inl (cA.1 0, (ev_hg h vo.2.1).2.length, .inl f)) := by rw [e2, t3]
  refine hrow _ _ _ _ _ _ ws q _ _ f _ x hwo.2.2.2.2.1 hwo.2.2.2.2.2 hS e2' (ev_in b1 t5) fun H1 locs1 hP hD hS1 => ?_
  refine g3 ads _ H1 locs1 ls _ hp h0 h1 (hwo.set t2 e2' _ _ ?_ hP hD) hS1 hfr hst
  rw [ev_cl b1]
  refine Or.inr (Or.inl ⟨by omega, by omega, _, by rw [t3, List.length_set], fun j v' hj' => ?_⟩)
  rw [List.getElem?_set] at hj'
  by_cases hk : vi.2.1 = j
  · subst hk
    rw [if_pos rfl, if_pos t5] at hj'
    cases hj'
    simp only [upd, if_pos]
    exact q1
  · rw [if_neg hk] at hj'
    simp only [upd, if_neg (fun z => hk (Eq.symm z))]
    exact e5 j v' hj'
theorem es_bast (hrow : ∀ (t : Nat) (ty : FieldType), (t = 1 ∧ ty = .byte ∨ t = 2 ∧ ty = .boolean) → ∀ (H : Heap) (locs : List Loc) (k' n : Nat) (ls : Array Slot) (rest : List Value) (ws : va_W) (a q0 N : Nat) (f : Nat → Int32) (i x : Int32), va_P D en_classes ws H → va_D A ws → va_S A s.heap H locs → ws[q0]? = some (a, .inl (cA.1 t, N, .inl f)) → vp_in i N → (∀ (H1 : Heap) (locs1 : List Loc), va_P D en_classes (ws.set q0 (a, .inl (cA.1 t, N, .inl (upd f i.toNatClampNeg (vp_nar ty x))))) H1 → va_D A (ws.set q0 (a, .inl (cA.1 t, N, .inl (upd f i.toNatClampNeg (vp_nar ty x))))) → va_S A s.heap H1 locs1 → W p l e R s m args below meth c H1 locs1 k' n Q (F0 m (pc + len) ls rest)) → W p l e R s m args below meth c H locs k' n Q (F0 m pc ls (.int x :: .int i :: .ref a :: rest))) : ev_sd p l e R s m args below meth c Q nL D cA A ads0 n0 s0 res call eo_bast pc len := by
  intro Kn Kj al st ns nc h hh hn hj
  have hq := ev_3_some hh
  clear hh
  obtain ⟨v, vi, vo, r, rfl, hh⟩ := hq
  have hq := ev_cell_some hh
  clear hh
  obtain ⟨t1, t2, hh⟩ := hq
  have hq := ev_nat_some hh
  clear hh
  obtain ⟨b0, b1, hh⟩ := hq
  have key : ∃ (t : Nat) (ty : FieldType), (t = 1 ∧ ty = .byte ∨ t = 2 ∧ ty = .boolean) ∧ (ev_hg h vo.2.1).1 = 50 + t ∧ (ev_un (vp_nar ty) v fun w => ev_put h vo.2.1 (ev_hg h vo.2.1).1 (ev_hg h vo.2.1).2 vi.2.1 w fun h' => Kn al r ns nc h') = some res := by
    by_cases hz : Nat.beq (ev_hg h vo.2.1).1 51 = true
    · rw [hz] at hh
      exact ⟨1, .byte, Or.inl ⟨rfl, rfl⟩, Nat.eq_of_beq_eq_true hz, hh⟩
    · rw [Bool.eq_false_iff.mpr hz] at hh
      simp only [] at hh
      have hq := ev_if_some hh
      clear hh
      obtain ⟨z1, hh⟩ := hq
      exact ⟨2, .boolean, Or.inr ⟨rfl, rfl⟩, Nat.eq_of_beq_eq_true z1, hh⟩
  clear hh
  obtain ⟨t, ty, hty, t3, hh⟩ := key
  have ht : t ≤ 2 := by omega
  have hq := ev_un_some hh
  clear hh
  obtain ⟨t4, cv, -, hh, hc⟩ := hq
  have hq := ev_put_some hh
  clear hh
  obtain ⟨t5, hh⟩ := hq
  obtain ⟨g1, g2, g3⟩ := hn _ _ _ _ _ hh
  refine ⟨g1, g2, fun ads ws H locs ls vs hp h0 h1 hwo hS hfr hst => ?_⟩
  have hq := hst.cons
  clear hst
  obtain ⟨w0, vs, rfl, q1, hst⟩ := hq
  have hq := hst.cons
  clear hst
  obtain ⟨w, vs, rfl, q2, hst⟩ := hq
  have hq := hst.cons
  clear hst
  obtain ⟨w', vs, rfl, q3, hst⟩ := hq
  obtain ⟨x, rfl, -⟩ := ev_rel.int (t := v.1) (a := v.2.1) (b := v.2.2) q1 t4
  obtain ⟨i, rfl, ei, -⟩ := ev_rel.int (t := vi.1) (a := vi.2.1) (b := vi.2.2) q2 (by omega)
  obtain ⟨q, e1, rfl⟩ := ev_rel.ref (t := vo.1) (a := vo.2.1) (b := vo.2.2) q3 t1
  obtain ⟨en, e2, e3⟩ := hwo.cell t2 e1
  obtain ⟨f, rfl, e5⟩ := e3.arr (by omega) (by omega)
  have ei := ei b0
  subst ei
  have e2' : ws[vo.2.1]? = some (q, .inl (cA.1 t, (ev_hg h vo.2.1).2.length, .inl f)) := by rw [e2, t3, Nat.add_sub_cancel_left]
  refine hrow t ty hty _ _ _ _ _ _ ws q _ _ f _ x hwo.2.2.2.2.1 hwo.2.2.2.2.2 hS e2' (ev_in b1 t5) fun H1 locs1 hP hD hS1 => ?_
  refine g3 ads _ H1 locs1 ls _ hp h0 h1 (hwo.set t2 e2' _ _ ?_ hP hD) hS1 hfr hst
  rw [ev_cl b1]
  refine Or.inr (Or.inl ⟨by omega, by omega, _, by rw [t3, Nat.add_sub_cancel_left, List.length_set], fun j v' hj' => ?_⟩)
  rw [List.getElem?_set] at hj'
  by_cases hk : vi.2.1 = j
  · subst hk
    rw [if_pos rfl, if_pos t5] at hj'
    cases hj'
    simp only [upd, if_pos]
    exact hc ads x q1
  · rw [if_neg hk] at hj'
    simp only [upd, if_neg (fun z => hk (Eq.symm z))]
    exact e5 j v' hj'
theorem es_alen (hrow : ∀ (t : Nat), t < 4 → ∀ (H : Heap) (locs : List Loc) (k' n : Nat) (ls : Array Slot) (rest : List Value) (ws : va_W) (a q0 : Nat) (x : vp_A), va_P D en_classes ws H → ws[q0]? = some (a, .inl (cA.1 t, x)) → W p l e R s m args below meth c H locs k' n Q (F0 m (pc + len) ls (.int (Int32.ofNat x.1) :: rest)) → W p l e R s m args below meth c H locs k' n Q (F0 m pc ls (.ref a :: rest))) : ev_sd p l e R s m args below meth c Q nL D cA A ads0 n0 s0 res call eo_alen pc len := by
  intro Kn Kj al st ns nc h hh hn hj
  have hq := ev_1_some hh
  clear hh
  obtain ⟨vo, r, rfl, hh⟩ := hq
  have hq := ev_cell_some hh
  clear hh
  obtain ⟨t1, t2, hh⟩ := hq
  have hq := ev_if_some hh
  clear hh
  obtain ⟨t3, hh⟩ := hq
  have t3 : 50 ≤ (ev_hg h vo.2.1).1 := Nat.le_of_ble_eq_true t3
  have hq := ev_if_some hh
  clear hh
  obtain ⟨t5, hh⟩ := hq
  have t5 : (ev_hg h vo.2.1).1 ≤ 53 := Nat.le_of_ble_eq_true t5
  rw [ev_fN_eq] at hh
  have hq := ev_if_some hh
  clear hh
  obtain ⟨t4, hh⟩ := hq
  obtain ⟨g1, g2, g3⟩ := hn _ _ _ _ _ hh
  refine ⟨g1, g2, fun ads ws H locs ls vs hp h0 h1 hwo hS hfr hst => ?_⟩
  have hq := hst.cons
  clear hst
  obtain ⟨w', vs, rfl, q3, hst⟩ := hq
  obtain ⟨q, e1, rfl⟩ := ev_rel.ref (t := vo.1) (a := vo.2.1) (b := vo.2.2) q3 t1
  obtain ⟨en, e2, e3⟩ := hwo.cell t2 e1
  have hg := g3 ads ws H locs ls (.int (Int32.ofNat (ev_hg h vo.2.1).2.length) :: vs) hp h0 h1 hwo hS hfr ⟨ev_rel.of ads _ 0, hst⟩
  rcases e3 with ⟨h, -⟩ | ⟨-, h2, f, rfl, -⟩ | ⟨h2, f, rfl⟩ | ⟨h, -⟩
  · omega
  · exact hrow _ (show (ev_hg h vo.2.1).1 - 50 < 4 by omega) _ _ _ _ _ _ ws q _ _ hwo.2.2.2.2.1 e2 hg
  · exact hrow 3 (by omega) _ _ _ _ _ _ ws q _ _ hwo.2.2.2.2.1 e2 hg
  · omega
theorem ev_new_some {tag n : Nat} {fl : List ev_V} {Kn : ev_S} {al st : List ev_V} {ns nc : Nat} {h : ev_H} {r} (hh : ev_new tag fl n Kn al st ns nc h = some r) : nc < 256 ∧ Kn al ((2, nc, 0) :: st) (ns + n) (nc + 1) (ev_hs h nc (tag, fl)) = some r := by
  have hq := ev_if_some hh
  clear hh
  obtain ⟨h1, hh⟩ := hq
  rw [ev_fN_eq, ev_fN_eq, ev_tset_k] at hh
  exact ⟨by simpa using h1, hh⟩
theorem es_newa {tag : Nat} {v0 : ev_V} (t : Nat) (htag : tag = 50 + t) (a0 : Nat → vp_A) (hrel : ∀ (N : Nat) (ads : List Nat), ev_relC cA ads tag (List.replicate N v0) (.inl (cA.1 t, a0 N))) (hcx : ev_cx p R s m args c cc own nL D cA A d n0 s0 res)
    (hrow : ∀ (H : Heap) (locs : List Loc) (k n : Nat) (ls : Array Slot) (rest : List Value) (ws : va_W) (N : Nat), N < 65536 → va_P D en_classes ws H → va_D A ws → va_S A s.heap H locs → k + 1 ≤ R.cells → n + N ≤ R.slots → (∀ (q : Nat) (H1 : Heap), va_P D en_classes (ws ++ [(q, .inl (cA.1 t, a0 N))]) H1 → va_D A (ws ++ [(q, .inl (cA.1 t, a0 N))]) → va_S A s.heap H1 locs → W p l e R s m args below meth c H1 locs (k + 1) (n + N) Q (F0 m (pc + len) ls (.ref q :: rest))) → W p l e R s m args below meth c H locs k n Q (F0 m pc ls (.int (ev_i N) :: rest))) : ev_sd p l e R s m args below meth c Q nL D cA A ads0 n0 s0 res call (eo_newa tag v0) pc len := by
  intro Kn Kj al st ns nc h hh hn hj
  have hq := ev_1_some hh
  clear hh
  obtain ⟨vn, r, rfl, hh⟩ := hq
  have hq := ev_nat_some hh
  clear hh
  obtain ⟨b0, b1, hh⟩ := hq
  rw [ev_fill_eq] at hh
  have hq := ev_new_some hh
  clear hh
  obtain ⟨b2, hh⟩ := hq
  obtain ⟨g1, g2, g3⟩ := hn _ _ _ _ _ hh
  refine ⟨by omega, by omega, fun ads ws H locs ls vs hp h0 h1 hwo hS hfr hst => ?_⟩
  have hq := hst.cons
  clear hst
  obtain ⟨w', vs, rfl, q3, hst⟩ := hq
  obtain ⟨i, rfl, ei, -⟩ := ev_rel.int (t := vn.1) (a := vn.2.1) (b := vn.2.2) q3 (by omega)
  have ei := ei b0
  subst ei
  obtain ⟨-, -, -, -, -, -, -, -, -, c1, c2, -⟩ := hcx
  refine hrow _ _ _ _ _ _ ws _ b1 hwo.2.2.2.2.1 hwo.2.2.2.2.2 hS (by omega) (by omega) fun q H1 hP hD hS1 => ?_
  have e1 : nc + 1 - n0 = nc - n0 + 1 := by omega
  have e2 : ns + vn.2.1 - s0 = ns - s0 + vn.2.1 := by omega
  have hpre : ∃ x, ads ++ [q] = ads ++ x := ⟨_, rfl⟩
  have hlen : ads.length = nc := by rw [← hwo.1, List.length_map]; exact hwo.2.1
  have hg := g3 (ads ++ [q]) _ H1 locs ls (.ref q :: vs) (by obtain ⟨x, rfl⟩ := hp; exact ⟨x ++ [q], by rw [List.append_assoc]⟩) (by omega) (by omega) (hwo.push b2 _ _ (hrel _ ads) hP hD) hS1 (hfr.mono hpre) ⟨ev_rel.at 0 (by rw [List.getElem?_append_right (by omega), hlen, Nat.sub_self]; rfl), hst.mono hpre⟩
  rw [e1, e2] at hg
  exact hg
theorem es_new {ci n : Nat} {fl : List ev_V} (fs0 : List Value) (hn' : fl.length = n) (hci : ci < 50) (hl : fs0.length = n) (hrel : ∀ (ads : List Nat) (j : Nat) (v : ev_V), fl[j]? = some v → ∃ w, fs0[j]? = some w ∧ ev_rel ads v w) (hcx : ev_cx p R s m args c cc own nL D cA A d n0 s0 res)
    (hrow : ∀ (H : Heap) (locs : List Loc) (k n' : Nat) (ls : Array Slot) (rest : List Value) (ws : va_W), va_P D en_classes ws H → va_D A ws → va_S A s.heap H locs → k + 1 ≤ R.cells → n' + n ≤ R.slots → (∀ (q : Nat) (H1 : Heap), va_P D en_classes (ws ++ [(q, .inr (ci, fs0))]) H1 → va_D A (ws ++ [(q, .inr (ci, fs0))]) → va_S A s.heap H1 locs → W p l e R s m args below meth c H1 locs (k + 1) (n' + n) Q (F0 m (pc + len) ls (.ref q :: rest))) → W p l e R s m args below meth c H locs k n' Q (F0 m pc ls rest)) : ev_sd p l e R s m args below meth c Q nL D cA A ads0 n0 s0 res call (eo_new ci fl n) pc len := by
  intro Kn Kj al st ns nc h hh hn hj
  have hq := ev_new_some hh
  clear hh
  obtain ⟨b2, hh⟩ := hq
  obtain ⟨g1, g2, g3⟩ := hn _ _ _ _ _ hh
  refine ⟨by omega, by omega, fun ads ws H locs ls vs hp h0 h1 hwo hS hfr hst => ?_⟩
  obtain ⟨-, -, -, -, -, -, -, -, -, c1, c2, -⟩ := hcx
  refine hrow _ _ _ _ _ _ ws hwo.2.2.2.2.1 hwo.2.2.2.2.2 hS (by omega) (by omega) fun q H1 hP hD hS1 => ?_
  have e1 : nc + 1 - n0 = nc - n0 + 1 := by omega
  have e2 : ns + n - s0 = ns - s0 + n := by omega
  have hpre : ∃ x, ads ++ [q] = ads ++ x := ⟨_, rfl⟩
  have hlen : ads.length = nc := by rw [← hwo.1, List.length_map]; exact hwo.2.1
  have hg := g3 (ads ++ [q]) _ H1 locs ls (.ref q :: vs) (by obtain ⟨x, rfl⟩ := hp; exact ⟨x ++ [q], by rw [List.append_assoc]⟩) (by omega) (by omega) (hwo.push b2 _ _ (Or.inl ⟨hci, fs0, rfl, by omega, hrel ads⟩) hP hD) hS1 (hfr.mono hpre) ⟨ev_rel.at 0 (by rw [List.getElem?_append_right (by omega), hlen, Nat.sub_self]; rfl), hst.mono hpre⟩
  rw [e1, e2] at hg
  exact hg
theorem es_obj (hrow : ∀ (H : Heap) (locs : List Loc) (k n : Nat) (ls : Array Slot) (rest : List Value) (a : Nat), ls.size = nL → (rest.map fun v => v.category).sum ≤ 8 → W p l e R s m args below meth c H locs k n Q (F0 m (pc + len) ls rest) → W p l e R s m args below meth c H locs k n Q (F0 m pc ls (.ref a :: rest))) : ev_sd p l e R s m args below meth c Q nL D cA A ads0 n0 s0 res call eo_obj pc len := by
  intro Kn Kj al st ns nc h hh hn hj
  have hq := ev_1_some hh
  clear hh
  obtain ⟨vo, r, rfl, hh⟩ := hq
  have hq := ev_if_some hh
  clear hh
  obtain ⟨t1, hh⟩ := hq
  have hq := ev_if_some hh
  clear hh
  obtain ⟨t2, hh⟩ := hq
  have t1 : vo.1 = 2 := Nat.eq_of_beq_eq_true t1
  obtain ⟨g1, g2, g3⟩ := hn _ _ _ _ _ hh
  refine ⟨g1, g2, fun ads ws H locs ls vs hp h0 h1 hwo hS hfr hst => ?_⟩
  have hq := hst.cons
  clear hst
  obtain ⟨w', vs, rfl, q3, hst⟩ := hq
  obtain ⟨q, e1, rfl⟩ := ev_rel.ref (t := vo.1) (a := vo.2.1) (b := vo.2.2) q3 t1
  exact hrow _ _ _ _ _ _ q hfr.2.choose_spec.1.1 (ev_small_ok hst t2) (g3 ads ws H locs ls _ hp h0 h1 hwo hS hfr hst)
end EvHeap
