/-! LOOPS BY A MEASURE: a local, or a field, that grows -/
section E2Meas
variable {p : Program} {l : Launch} {e : Env} {R : Room} {s : State} {m : MethodId} {args : Array Value} {below : List Frame} {meth : Method} {c : Code} {Q : State → Prop}
variable {D : va_G} {cA : e2_cA} {A : Nat → Prop} {ads r0 : List Nat} {d : Nat} {call : e2_Call} {F : e2_F} {M : ev_M} {MT : List ev_M} {bp : Nat}
theorem e2_act.ext (ha : e2_act M d F p l e R s m args below meth c Q D cA A ads r0) {r1 : List Nat} (h1 : ∃ x, r1 = r0 ++ x) : e2_act M d F p l e R s m args below meth c Q D cA A ads r1 := by
  obtain ⟨a1, a2, a3, a4, a5, a6⟩ := ha
  exact ⟨a1, a2, fun z pc r ws H locs ls x v E h hp => a3 z pc r ws H locs ls x v E h (e2_ext h1 hp), fun z pc r ws H locs ls x v E h hp => a4 z pc r ws H locs ls x v E h (e2_ext h1 hp), fun z pc r ws H locs ls x v E h hp => a5 z pc r ws H locs ls x v E h (e2_ext h1 hp), fun z pc r ws H locs ls E h hp => a6 z pc r ws H locs ls E h (e2_ext h1 hp)⟩
/-- the bounds with the new value of the measure -/
theorem e2_sat.grow {r r' : List Nat} {E c : e2_E} {u k k' hi : Nat} (hc : c.length = u + 1) (hs : e2_sat r c) (hk : r[u]? = some k) (hs' : e2_sat r' E) (hp : e2_pre u (c.take u) 0 E = true) (hx : ∃ y, r' = r ++ y) (h1 : k ≤ k') (h2 : k' ≤ hi) {lo b dd : Nat} (hu : c[u]? = some (lo, hi, b, dd)) (hb : b < u ∨ (b = u ∧ dd = 0)) : e2_sat (r'.take u ++ [k']) c := by
  have hl : (c.take u).length = u := by rw [List.length_take]; omega
  have hs2 : e2_sat (r'.take u) (c.take u) := by
    have := hs'.take (c := c.take u) (by rw [hl]; exact hp)
    rw [hl] at this
    exact this
  have hl2 : (r'.take u).length = u := by rw [hs2.1]; exact hl
  have hat : (r'.take u ++ [k'])[u]? = some k' := by rw [List.getElem?_append_right (by omega), hl2, Nat.sub_self]; rfl
  have hsame : ∀ {i q : Nat}, i < u → r[i]? = some q → (r'.take u ++ [k'])[i]? = some q := by
    intro i q hi hq
    obtain ⟨y, rfl⟩ := hx
    rw [List.getElem?_append_left (by omega), List.getElem?_take, if_pos hi, List.getElem?_append_left (List.getElem?_eq_some_iff.mp hq).1]
    exact hq
  refine ⟨by rw [List.length_append, hl2, hc]; rfl, fun i bb hi' => ?_⟩
  by_cases hi : i < u
  · have : (c.take u)[i]? = some bb := by rw [List.getElem?_take, if_pos hi]; exact hi'
    obtain ⟨q, qb, f1, f2, f3, f4, f5⟩ := hs2.get this
    exact ⟨q, qb, by rw [List.getElem?_append_left (by omega)]; exact f1, f2, f3, by rw [List.getElem?_append_left (List.getElem?_eq_some_iff.mp f4).1]; exact f4, f5⟩
  · have hlt := (List.getElem?_eq_some_iff.mp hi').1
    have : i = u := by omega
    subst this
    rw [hu] at hi'
    cases hi'
    obtain ⟨q, qb, f1, f2, f3, f4, f5⟩ := hs.get hu
    have e1 : q = k := Option.some.inj (f1.symm.trans hk)
    have f2 : lo ≤ q := f2
    have f4 : r[b]? = some qb := f4
    have f5 : qb + dd ≤ q := f5
    rcases hb with hb | ⟨hb, hd⟩
    · exact ⟨k', qb, hat, show lo ≤ k' by omega, h2, hsame hb f4, show qb + dd ≤ k' by omega⟩
    · exact ⟨k', k', hat, show lo ≤ k' by omega, h2, by show _[b]? = _; rw [hb]; exact hat, show k' + dd ≤ k' by omega⟩
noncomputable def e2_cutL (al' : List ev_V) (u : Nat) (c : e2_E) (h : ev_H) : e2_S := fun al st E g => e2_0 st (e2_if (e2_lle (e2_vl9 E) al' al) (e2_if (e2_pre u c 0 E) (e2_hle E 8 h g)))
/-- the measure is a local -/
theorem e2_indL {al : List ev_V} {E : e2_E} {h : ev_H} {u j lo hi b dd : Nat} (hr0 : r0.length ≤ u) (hu8 : u < 8) (hE : E.length = u + 1) (hEu : E[u]? = some (lo, hi, b, dd)) (hb : b < u ∨ (b = u ∧ dd = 0)) (hj : al[j]? = some (1, u, 4294967296)) (hia : e2_idl u (al.set j (9, 0, 0)) = true) (hih : e2_idh u 8 h = true)
    (hbody : ∀ (r : List Nat) (k : Nat), r[u]? = some k → (∃ x, r = r0 ++ x) → e2_sat r E → (∀ al1 st1 E1 g1, e2_cutL (al.set j (13, u + 8, hi)) u (E.take u) h al1 st1 E1 g1 = true → e2_gdM M p l e R s m args below meth c Q D cA A ads r bp al1 st1 E1 g1) → e2_gdM M p l e R s m args below meth c Q D cA A ads r bp al [] E h) : e2_gdM M p l e R s m args below meth c Q D cA A ads r0 bp al [] E h := by
  have hjl := (List.getElem?_eq_some_iff.mp hj).1
  have key : ∀ (n : Nat) (r : List Nat) (ws : va_W) (H : Heap) (locs : List Loc) (ls : Array Slot) (vs : List Value) (k : Nat), r[u]? = some k → hi - k < n → (∃ x, r = r0 ++ x) → e2_sat r E → e2_wo D cA A ads r ws h H → va_S A s.heap H locs → e2_fr ads r M.2.2.1 al ls → e2_relS ads r [] vs → W p l e R s m args below meth c H locs 0 0 Q (F0 m bp ls vs) := by
    intro n
    induction n with
    | zero => intro r ws H locs ls vs k _ hn; omega
    | succ n ih =>
      intro r ws H locs ls vs k hk hn hp hs hwo hS hfr hst
      have hg := hbody r k hk hp hs (fun al1 st1 E1 h1 hcut => ?_)
      · exact hg r ws H locs ls vs ⟨[], by simp⟩ hs hwo hS hfr hst
      · intro r1 ws1 H1 locs1 ls1 vs1 hp1 hs1 hwo1 hS1 hfr1 hst1
        obtain ⟨rfl, c1⟩ := e2_0_t hcut
        obtain ⟨c2, c3⟩ := e2_if_t c1
        obtain ⟨c4, c5⟩ := e2_if_t c3
        have hst1 := hst1.nil
        subst hst1
        have hfr2 := hfr1.le hs1 c2
        obtain ⟨f1, lv, f2, f3⟩ := hfr2
        obtain ⟨-, w, m1, m2⟩ := f3 j (13, u + 8, hi) (by rw [List.getElem?_set, if_pos rfl, if_pos hjl]) (by show (13 : Nat) ≠ 9; decide)
        obtain ⟨x, k0, rfl, m3, m4, m5⟩ := m2
        have m3 : r1[(u + 8) % 8]? = some k0 := m3
        have m4 : k0 + (u + 8) / 8 ≤ ev_key x := m4
        have m5 : ev_key x ≤ hi := m5
        rw [show (u + 8) % 8 = u by omega] at m3
        have hk0 : k0 = k := by
          obtain ⟨y, rfl⟩ := hp1
          rw [List.getElem?_append_left (List.getElem?_eq_some_iff.mp hk).1, hk] at m3
          exact (Option.some.inj m3).symm
        have hlt : k + 1 ≤ ev_key x := by omega
        have hsat := e2_sat.grow hE hs hk hs1 c4 hp1 (show k ≤ ev_key x by omega) m5 hEu hb
        have hl2 : (r1.take u).length = u := by
          have := hsat.1
          rw [List.length_append, hE] at this
          simpa using this
        have hat : (r1.take u ++ [ev_key x])[u]? = some (ev_key x) := by rw [List.getElem?_append_right (by omega), hl2, Nat.sub_self]; rfl
        have hpre : ∃ y, r1.take u ++ [ev_key x] = r1.take u ++ y := ⟨_, rfl⟩
        refine ih (r1.take u ++ [ev_key x]) ws1 H1 locs1 ls1 [] (ev_key x) hat (by omega) (e2_ext (e2_take_pre (e2_ext hp hp1) hr0) hpre) hsat (((hwo1.le hs1 c5).take hih).mono hpre) hS1 ?_ trivial
        refine ⟨by rw [← f1, List.length_set], lv, f2, fun i v hi' h9 => ?_⟩
        by_cases hij : j = i
        · subst hij
          rw [hj] at hi'
          cases hi'
          exact ⟨by show (1 : Nat) ≠ 7; decide, _, m1, x, ev_key x, rfl, hat, rfl⟩
        · obtain ⟨q7, w, q1, q2⟩ := f3 i v (by rw [List.getElem?_set, if_neg hij]; exact hi') h9
          have hid := e2_idl_ok hia i v (by rw [List.getElem?_set, if_neg hij]; exact hi')
          exact ⟨q7, w, q1, (e2_idv_ok hid q2).mono hpre⟩
  intro r ws H locs ls vs hp hs hwo hS hfr hst
  obtain ⟨k, -, f1, -⟩ := hs.get hEu
  exact key (hi - k + 1) r ws H locs ls vs k f1 (by omega) hp hs hwo hS hfr hst
/-- the measure is a field -/
theorem e2_indH {al : List ev_V} {E : e2_E} {h h1 : ev_H} {u a j lo hi b dd : Nat} (hr0 : r0.length ≤ u) (hu8 : u < 8) (hE : E.length = u + 1) (hEu : E[u]? = some (lo, hi, b, dd)) (hb : b < u ∨ (b = u ∧ dd = 0)) (ha133 : a < 133) (hat50 : (ev_hg h a).1 < 50) (hj : (ev_hg h a).2[j]? = some (1, u, 4294967296)) (hia : e2_idl u al = true) (hih : e2_idh u 8 (ev_hs h a ((ev_hg h a).1, (ev_hg h a).2.set j (7, 0, 0))) = true) (hh1 : h1 = ev_hs h a ((ev_hg h a).1, (ev_hg h a).2.set j (13, u + 8, hi)))
    (hbody : ∀ (r : List Nat) (k : Nat), r[u]? = some k → (∃ x, r = r0 ++ x) → e2_sat r E → (∀ al1 st1 E1 g1, e2_cutL al u (E.take u) h1 al1 st1 E1 g1 = true → e2_gdM M p l e R s m args below meth c Q D cA A ads r bp al1 st1 E1 g1) → e2_gdM M p l e R s m args below meth c Q D cA A ads r bp al [] E h) : e2_gdM M p l e R s m args below meth c Q D cA A ads r0 bp al [] E h := by
  have hjl := (List.getElem?_eq_some_iff.mp hj).1
  have key : ∀ (n : Nat) (r : List Nat) (ws : va_W) (H : Heap) (locs : List Loc) (ls : Array Slot) (vs : List Value) (k : Nat), r[u]? = some k → hi - k < n → (∃ x, r = r0 ++ x) → e2_sat r E → e2_wo D cA A ads r ws h H → va_S A s.heap H locs → e2_fr ads r M.2.2.1 al ls → e2_relS ads r [] vs → W p l e R s m args below meth c H locs 0 0 Q (F0 m bp ls vs) := by
    intro n
    induction n with
    | zero => intro r ws H locs ls vs k _ hn; omega
    | succ n ih =>
      intro r ws H locs ls vs k hk hn hp hs hwo hS hfr hst
      have hg := hbody r k hk hp hs (fun al1 st1 E1 g1 hcut => ?_)
      · exact hg r ws H locs ls vs ⟨[], by simp⟩ hs hwo hS hfr hst
      · intro r1 ws1 H1 locs1 ls1 vs1 hp1 hs1 hwo1 hS1 hfr1 hst1
        obtain ⟨rfl, c1⟩ := e2_0_t hcut
        obtain ⟨c2, c3⟩ := e2_if_t c1
        obtain ⟨c4, c5⟩ := e2_if_t c3
        have hst1 := hst1.nil
        subst hst1
        have hwo2 := hwo1.le hs1 c5
        rw [hh1] at hwo2
        obtain ⟨hlE, -⟩ := e2_pre_ok c4
        have hlE : u ≤ E1.length := by have : (E.take u).length = u := by rw [List.length_take]; omega
                                       omega
        have hlu : (r1.take u).length = u := by rw [List.length_take, hs1.1]; omega
        obtain ⟨w, m2, hren⟩ := e2_wo.rename (h := h) (a := a) (j := j) (u := u) (g := (13, u + 8, hi)) hwo2 ha133 hat50 hj hih hlu
        obtain ⟨x, k0, rfl, m3, m4, m5⟩ := m2
        have m3 : r1[(u + 8) % 8]? = some k0 := m3
        have m4 : k0 + (u + 8) / 8 ≤ ev_key x := m4
        have m5 : ev_key x ≤ hi := m5
        rw [show (u + 8) % 8 = u by omega] at m3
        have hk0 : k0 = k := by
          obtain ⟨y, rfl⟩ := hp1
          rw [List.getElem?_append_left (List.getElem?_eq_some_iff.mp hk).1, hk] at m3
          exact (Option.some.inj m3).symm
        have hsat := e2_sat.grow hE hs hk hs1 c4 hp1 (show k ≤ ev_key x by omega) m5 hEu hb
        have hl2 : (r1.take u).length = u := by
          have := hsat.1
          rw [List.length_append, hE] at this
          simpa using this
        have hat : (r1.take u ++ [ev_key x])[u]? = some (ev_key x) := by rw [List.getElem?_append_right (by omega), hl2, Nat.sub_self]; rfl
        have hpre : ∃ y, r1.take u ++ [ev_key x] = r1.take u ++ y := ⟨_, rfl⟩
        exact ih (r1.take u ++ [ev_key x]) ws1 H1 locs1 ls1 [] (ev_key x) hat (by omega) (e2_ext (e2_take_pre (e2_ext hp hp1) hr0) hpre) hsat (hren x rfl) hS1 (((hfr1.le hs1 c2).take hia).mono hpre) trivial
  intro r ws H locs ls vs hp hs hwo hS hfr hst
  obtain ⟨k, -, f1, -⟩ := hs.get hEu
  exact key (hi - k + 1) r ws H locs ls vs k f1 (by omega) hp hs hwo hS hfr hst
end E2Meas
