/-! A FIELD THAT THE CALLEE KEEPS: in its contract a variable of its own; the caller keeps what it knows of it. And a contract by the values of the second variable. -/
/-- what is to be known of such a contract itself -/
def e2_okG (n a j : Nat) (as : List ev_V) (f : ev_H) (res : e2_Rs) : Prop :=
  a < 133 ∧ (ev_hg f a).1 < 50 ∧ (ev_hg f a).2[j]? = some (1, n, 4294967296) ∧ (e2_okS n as (e2_gset f a j (7, 0, 0)) (res.map fun q => (q.1, e2_gset q.2 a j (7, 0, 0))) ∧ e2_mix (e2_gset f a j (7, 0, 0))) ∧ ∀ q ∈ res, (ev_hg q.2 a).1 < 50 ∧ (ev_hg q.2 a).2[j]? = some (1, n, 4294967296)
noncomputable def e2_okGB (n a j : Nat) (as : List ev_V) (f : ev_H) (res : e2_Rs) : Bool :=
  e2_if (Nat.blt a 133) (e2_if (Nat.blt (ev_hg f a).1 50) (e2_if (e2_get (ev_hg f a).2 j fun v => ev_veq (1, n, 4294967296) v) (e2_if (e2_okSB n as (e2_gset f a j (7, 0, 0)) (res.map fun q => (q.1, e2_gset q.2 a j (7, 0, 0)))) (e2_allR res fun q => e2_if (Nat.blt (ev_hg q.2 a).1 50) (e2_get (ev_hg q.2 a).2 j fun v => ev_veq (1, n, 4294967296) v)))))
theorem e2_okGB_ok {n a j : Nat} {as : List ev_V} {f : ev_H} {res : e2_Rs} (h : e2_okGB n a j as f res = true) : e2_okG n a j as f res := by
  obtain ⟨h1, h⟩ := e2_if_t h
  obtain ⟨h2, h⟩ := e2_if_t h
  obtain ⟨h3, h⟩ := e2_if_t h
  obtain ⟨h4, h5⟩ := e2_if_t h
  obtain ⟨v, v1, v2⟩ := e2_get_t h3
  refine ⟨Nat.le_of_ble_eq_true h1, Nat.le_of_ble_eq_true h2, by rw [ev_veq_ok v2]; exact v1, e2_okSB_ok h4, fun q hq => ?_⟩
  obtain ⟨g1, g2⟩ := e2_if_t (e2_allR_ok h5 q hq)
  obtain ⟨w, w1, w2⟩ := e2_get_t g2
  exact ⟨Nat.le_of_ble_eq_true g1, by rw [ev_veq_ok w2]; exact w1⟩
theorem e2_orG_met {l : Launch} {M : ev_M} {d n a j lo hi : Nat} {as0 as : List ev_V} {Eb E : e2_E} {f h : ev_H} {res : e2_Rs} {K : e2_F} {v : ev_V} (hn : Eb.length = n) (hlh : lo ≤ hi) (hm : e2_Met l M d as0 (Eb ++ [(lo, hi, n, 0)]) f (e2_fin res)) (ho : e2_okG n a j as0 f res) (h1 : e2_lle (e2_vl9 E) as0 as = true) (h2 : e2_pre Eb.length Eb 0 E = true) (hvt : (ev_hg h a).1 < 50) (hv : (ev_hg h a).2[j]? = some v) (hvb : e2_vle E (11, lo, hi) v = true) (h3 : e2_hlf E 8 (e2_gset f a j (7, 0, 0)) h = true) (hK : ∀ q ∈ res, K q.1 E (e2_mrg 8 f (e2_gset q.2 a j v) h) = true) : e2_Met l M d as E h K := by
  obtain ⟨g1, g2, g3, ⟨⟨o1, o2, o3, o4, o5⟩, o6⟩, g5⟩ := ho
  have hjf : j < (ev_hg f a).2.length := (List.getElem?_eq_some_iff.mp g3).1
  have hfa : ev_hg (e2_gset f a j (7, 0, 0)) a = ((ev_hg f a).1, (ev_hg f a).2.set j (7, 0, 0)) := by rw [e2_gset_at g1 g1, if_pos rfl]
  have hfk : ∀ k, k < 133 → k ≠ a → ev_hg (e2_gset f a j (7, 0, 0)) k = ev_hg f k := fun k hk hka => by rw [e2_gset_at g1 hk, if_neg hka]
  have hft : ∀ k, k < 133 → (ev_hg (e2_gset f a j (7, 0, 0)) k).1 = (ev_hg f k).1 := fun k hk => by
    by_cases hka : k = a
    · subst hka; rw [hfa]
    · rw [hfk k hk hka]
  intro D cA ads r0 ws vs sz hsat hrel
  have hsatb := hsat.take h2
  have hlen : (r0.take Eb.length).length = Eb.length := by rw [hsatb.1]
  have hpre0 : ∃ x, r0 = r0.take Eb.length ++ x := ⟨r0.drop Eb.length, (List.take_append_drop _ _).symm⟩
  have htk : ∀ {st : List ev_V} {vs : List Value}, e2_idl n st = true → e2_relS ads r0 st vs → e2_relS ads (r0.take n) st vs := by
    intro st
    induction st with
    | nil => intro vs _ h; rw [h.nil]; exact trivial
    | cons v st ih =>
      intro vs hi h
      obtain ⟨i1, i2⟩ := e2_if_t (show e2_if (e2_idv n v) (e2_idl n st) = true from hi)
      obtain ⟨w, ws, rfl, g1, g7, g2⟩ := h.cons
      exact ⟨e2_idv_ok i1 g1, g7, ih i2 g2⟩
  have hrelb := htk o1 (e2_relS.le hsat h1 o2 hrel)
  -- the key of the field, if the world has one
  have hkey : ∃ kx, lo ≤ kx ∧ kx ≤ hi ∧ ∀ U : State, e2_wo D cA (fun _ => True) ads r0 ws h U.heap → ∀ q vs w, ws[a]? = some (q, .inr ((ev_hg h a).1, vs)) → vs[j]? = some w → ∃ x : Int32, w = .int x ∧ ev_key x = kx := by
    by_cases hx : ∃ (U : State) (q : Nat) (vs : List Value) (x : Int32), e2_wo D cA (fun _ => True) ads r0 ws h U.heap ∧ ws[a]? = some (q, .inr ((ev_hg h a).1, vs)) ∧ vs[j]? = some (.int x)
    · obtain ⟨U, q, vs, x, x1, x2, x3⟩ := hx
      obtain ⟨q', e', z1, z2⟩ := x1.2.2.1 a g1
      rw [x2] at z1
      cases z1
      obtain ⟨vs', y1, y2, y3⟩ := z2.obj hvt
      cases y1
      obtain ⟨w, w1, w2⟩ := y3 j v hv
      rw [x3] at w1
      cases w1
      obtain ⟨X, X1, X2, X3⟩ := e2_vle_ok hvb hsat w2
      cases X1
      refine ⟨ev_key x, X2, X3, fun U' hU' q' vs' w' e1 e2 => ?_⟩
      rw [x2] at e1
      cases e1
      rw [x3] at e2
      cases e2
      exact ⟨x, rfl, rfl⟩
    · refine ⟨lo, Nat.le_refl _, hlh, fun U hU q vs w e1 e2 => ?_⟩
      obtain ⟨q', e', z1, z2⟩ := hU.2.2.1 a g1
      rw [e1] at z1
      cases z1
      obtain ⟨vs', y1, y2, y3⟩ := z2.obj hvt
      cases y1
      obtain ⟨w', w1, w2⟩ := y3 j v hv
      obtain ⟨X, rfl, -, -⟩ := e2_vle_ok hvb hsat w2
      exact absurd ⟨U, _, _, X, hU, e1, w1⟩ hx
  obtain ⟨kx, k1, k2, hkx⟩ := hkey
  have hsat0 : e2_sat (r0.take n ++ [kx]) (Eb ++ [(lo, hi, n, 0)]) := by
    rw [← hn]
    exact e2_sat.snoc rfl hsatb k1 k2
  have hat : (r0.take n ++ [kx])[n]? = some kx := by
    rw [← hn, List.getElem?_append_right (by rw [hlen]; exact Nat.le_refl _), hlen, Nat.sub_self]; rfl
  have hpre1 : ∃ x, r0.take n ++ [kx] = r0.take n ++ x := ⟨_, rfl⟩
  have hrel0 : e2_relS ads (r0.take n ++ [kx]) as0 vs := e2_relS.mono hpre1 hrelb
  refine MetFree.mono (hm D (e2_cB cA ws) ads (r0.take n ++ [kx]) ws vs sz hsat0 hrel0) (fun b U hp => ?_) (fun _ _ _ _ _ h => h) (fun b U o t hp hq => ?_)
  · obtain ⟨p0, p1, p2, p3, p4⟩ := hp
    refine ⟨p0, p1, ?_, p3, p4⟩
    have p2' := p2
    obtain ⟨w1, w2, w3, w4, w5, wJ⟩ := p2
    have w6 : e2_wo D (e2_cB cA ws) (fun _ => True) ads r0 ws (e2_gset f a j (7, 0, 0)) U.heap := by
      refine ⟨w1, ⟨w2.1, w2.2.swap rfl fun t e ht => ⟨fun h => h.1 ht, fun h => ⟨fun _ => h, fun q => by omega⟩⟩⟩, fun k hk => ?_, w4, w5, wJ.tags fun k hk hz => ?_⟩
      rotate_left
      · rcases e2_hlf_ok 8 _ h h3 k (by omega) with z | z
        · have := e2_isF_cases.1 z
          have hz : (ev_tget 8 (e2_gset f a j (7, 0, 0)) k id : ev_C).1 = 57 ∨ (ev_tget 8 (e2_gset f a j (7, 0, 0)) k id : ev_C).1 = 58 := hz
          omega
        · exact e2_cle_tag z hz
      obtain ⟨q, e, z1, z2⟩ := w3 k hk
      refine ⟨q, e, z1, ?_⟩
      cases hz : e2_isF (ev_hg (e2_gset f a j (7, 0, 0)) k).1 with
      | true =>
        have g := e2_isF_cases.1 hz
        refine Or.inr (Or.inr (Or.inr (Or.inr (Or.inl ⟨by omega, fun _ => ⟨fun q => by omega, fun _ => ?_⟩⟩))))
        show (ws[(ev_hg (e2_gset f a j (7, 0, 0)) k).1 - 100]?).map Prod.snd = some e
        rw [o4 k hk hz, show 100 + k - 100 = k by omega, z1]
        rfl
      | false =>
        rcases e2_hlf_ok 8 _ h h3 k (by omega) with z | z
        · rw [show e2_isF (ev_tget 8 (e2_gset f a j (7, 0, 0)) k id : ev_C).1 = false from hz] at z
          cases z
        · exact (z2.le hsat z).swap rfl (fun t e ht h => ⟨fun _ => h, fun q => by omega⟩) hz
    have w7 := (w6.take o3).mono hpre1
    have w8 := w7.field (j := j) (v := (1, n, 4294967296)) g1 (by rw [hfa]; exact g2) (fun q vs w e1 e2 => by
      obtain ⟨q', e', z1, z2⟩ := w3 a g1
      obtain ⟨vs', y1, y2, y3⟩ := z2.obj hvt
      rw [y1] at z1
      have e3 := Option.some.inj (z1.symm.trans e1)
      have e4 : vs' = vs := (Prod.mk.inj (Sum.inr.inj (Prod.mk.inj e3).2)).2
      obtain ⟨x, rfl, hx⟩ := hkx U p2' q' vs' w z1 (by rw [e4]; exact e2)
      exact ⟨x, kx, rfl, hat, by rw [hx]⟩)
    refine w8.congr fun k hk => ?_
    rw [e2_gset_at g1 hk]
    by_cases hka : k = a
    · subst hka
      rw [if_pos rfl, hfa]
      show ev_hg f k = ((ev_hg f k).1, ((ev_hg f k).2.set j (7, 0, 0)).set j (1, n, 4294967296))
      rw [List.set_set]
      have : (ev_hg f k).2.set j (1, n, 4294967296) = (ev_hg f k).2 := by
        apply List.ext_getElem?
        intro i
        rw [List.getElem?_set]
        by_cases hi : j = i
        · subst hi
          rw [if_pos rfl, if_pos hjf, g3]
        · rw [if_neg hi]
      rw [this]
    · rw [if_neg hka, hfk k hk hka]
  · obtain ⟨⟨u, E1, gg, r1, ws1, w, q1, q2, q3, q4, q5, q6⟩, q7⟩ := hq.1
    obtain ⟨-, -, hwo0, -, -⟩ := hp
    refine ⟨⟨?_, q7⟩, hq.2⟩
    obtain ⟨q, m1, m2, m3⟩ := e2_fin_ok q1
    obtain ⟨i1, i2, i3⟩ := o5 _ (List.mem_map.mpr ⟨q, m1, rfl⟩)
    obtain ⟨t1, t2⟩ := g5 q m1
    have hr1 : r1.take n = r0.take n := by
      obtain ⟨x, rfl⟩ := q3
      rw [List.append_assoc, List.take_append, ← hn, hlen, Nat.sub_self, List.take_zero, List.append_nil]
      exact List.take_of_length_le (by omega)
    have hr1n : r1[n]? = some kx := by
      obtain ⟨x, rfl⟩ := q3
      rw [List.getElem?_append_left (List.getElem?_eq_some_iff.mp hat).1]
      exact hat
    have hpre0' : ∃ x, r0 = r0.take n ++ x := by rw [← hn]; exact hpre0
    have s0 := q5.le q4 m3
    have s1 := (s0.field (j := j) (v := (7, 0, 0)) g1 t1 (fun _ _ _ _ _ => trivial)).take i2
    rw [hr1] at s1
    have s2 := s1.mono hpre0'
    have hret := ((q6.le q4 m2).take i1)
    rw [hr1] at hret
    -- the field behind the call
    have hqa : ev_hg (e2_gset q.2 a j (7, 0, 0)) a = ((ev_hg q.2 a).1, (ev_hg q.2 a).2.set j (7, 0, 0)) := by rw [e2_gset_at g1 g1, if_pos rfl]
    have s3 := s2.field (j := j) (v := v) g1 (by rw [hqa]; exact t1) (fun qq vs' w' e1 e2 => by
      rw [hqa] at e1
      obtain ⟨q', e', z1, z2⟩ := s0.2.2.1 a g1
      obtain ⟨vs1, y1, y2, y3⟩ := z2.obj t1
      rw [e1] at z1
      cases z1
      cases y1
      obtain ⟨w1, c1, c2⟩ := y3 j _ t2
      rw [e2] at c1
      cases c1
      obtain ⟨x1, kk, rfl, c3, c4⟩ := c2
      have c3 : r1[n]? = some kk := c3
      rw [hr1n] at c3
      cases c3
      have c4 : ev_key x1 + 4294967296 = kx + 4294967296 := c4
      obtain ⟨q0, e0, b1, b2⟩ := hwo0.2.2.1 a g1
      obtain ⟨vs0, y4, y5, y6⟩ := b2.obj hvt
      obtain ⟨w0, d1, d2⟩ := y6 j v hv
      obtain ⟨x0, rfl, hx0⟩ := hkx _ hwo0 q0 vs0 w0 (by rw [b1, y4]) d1
      rw [ev_key_eqI.mpr (show ev_key x1 = ev_key x0 by omega)]
      exact d2)
    have s4 : e2_wo D (e2_cB cA ws) (va_A ws sz) ads r0 ws1 (e2_gset q.2 a j v) t.heap := by
      refine s3.congr fun k hk => ?_
      rw [e2_gset_at g1 hk, e2_gset_at g1 hk]
      by_cases hka : k = a
      · subst hka
        rw [if_pos rfl, if_pos rfl, hqa]
        show ((ev_hg q.2 k).1, (ev_hg q.2 k).2.set j v) = ((ev_hg q.2 k).1, ((ev_hg q.2 k).2.set j (7, 0, 0)).set j v)
        rw [List.set_set]
      · rw [if_neg hka, if_neg hka, e2_gset_at g1 hk, if_neg hka]
    refine ⟨q.1, E, e2_mrg 8 f (e2_gset q.2 a j v) h, r0, ws1, w, hK q m1, q2, ⟨[], by simp⟩, hsat, ?_, hret.mono hpre0'⟩
    obtain ⟨w1, w2, w3, w4, w5, wJ⟩ := s4
    have hmr0 : ∀ k, ev_hg (e2_mrg 8 f (e2_gset q.2 a j v) h) k = (Bool.rec (motive := fun _ => ev_C) (ev_hg (e2_gset q.2 a j v) k) (ev_hg h k) (e2_isF (ev_hg f k).1) : ev_C) := fun k => e2_mrg_ok 8 f (e2_gset q.2 a j v) h k
    have htag0 : ∀ k, k < 133 → (ev_hg (e2_gset q.2 a j v) k).1 = (ev_hg (e2_gset q.2 a j (7, 0, 0)) k).1 := by
      intro k hk
      rw [e2_gset_at g1 hk, e2_gset_at g1 hk]
      by_cases hka : k = a
      · rw [if_pos hka, if_pos hka]
      · rw [if_neg hka, if_neg hka]
    have hfz : ∀ k, k < 133 → e2_isF (ev_hg f k).1 = true → (ws1[k]?).map Prod.snd = (ws[k]?).map Prod.snd := by
      intro k hk hz
      obtain ⟨a1, e1, z1, z2⟩ := w3 k hk
      have g := e2_isF_cases.1 hz
      have ht := (i3 k hk).1 (by rw [hft k hk]; exact hz)
      have ho4 := o4 k hk (by rw [hft k hk]; exact hz)
      rw [hft k hk] at ht ho4
      have ht2 : (ev_hg (e2_gset q.2 a j v) k).1 = (ev_hg f k).1 := (htag0 k hk).trans ht
      have he : (ws[(ev_hg (e2_gset q.2 a j v) k).1 - 100]?).map Prod.snd = some e1 := by
        rcases z2 with ⟨x1, -⟩ | ⟨-, x1, -⟩ | ⟨x1, -⟩ | ⟨-, x1, -⟩ | ⟨-, x1⟩ | ⟨x1, -⟩ | ⟨x1, -⟩ | ⟨x1, -⟩
        · omega
        · omega
        · omega
        · omega
        · exact (x1 (by omega)).2 (by omega)
        · omega
        · omega
        · omega
      rw [ht2, ho4, show 100 + k - 100 = k by omega] at he
      rw [he, z1]
      rfl
    refine ⟨w1, ⟨w2.1, hwo0.2.1.2⟩, fun k hk => ?_, w4, w5, fun cs hcs hgd => ?_⟩
    rotate_left
    · obtain ⟨j0, -, -, -, jk⟩ := e2_Jc_in hcs
      rcases o6 cs hcs with ha | hn'
      · have ha : ∀ k ∈ cs, e2_isF (ev_hg f k).1 = true := fun k hk => by rw [← hft k (jk k hk)]; exact ha k hk
        have hh : ∀ k ∈ cs, ev_hg (e2_mrg 8 f (e2_gset q.2 a j v) h) k = ev_hg h k := fun k hk => by rw [hmr0 k, ha k hk]
        have gd : e2_Jgd cs h := ⟨by rw [← hh _ j0]; exact hgd.1, fun k hk => by rw [← hh k hk]; exact hgd.2 k hk⟩
        obtain ⟨s0', fs0, b1, b6, b2, b7⟩ := hwo0.2.2.2.2.2 cs hcs gd
        obtain ⟨-, -, -, ci, -⟩ := e2_Jc_in hcs
        refine ⟨s0', fs0, b1, b6, fun i hi => ?_, b7⟩
        obtain ⟨t', n', e'⟩ := b2 i hi
        exact ⟨t', n', by rw [hfz _ (jk _ (ci i hi)) (ha _ (ci i hi))]; exact e'⟩
      · have hn' : ∀ k ∈ cs, e2_isF (ev_hg f k).1 = false := fun k hk => by rw [← hft k (jk k hk)]; exact hn' k hk
        have hh : ∀ k ∈ cs, ev_hg (e2_mrg 8 f (e2_gset q.2 a j v) h) k = ev_hg (e2_gset q.2 a j v) k := fun k hk => by rw [hmr0 k, hn' k hk]
        exact wJ cs hcs ⟨by rw [← hh _ j0]; exact hgd.1, fun k hk => by rw [← hh k hk]; exact hgd.2 k hk⟩
    obtain ⟨a1, e1, z1, z2⟩ := w3 k hk
    refine ⟨a1, e1, z1, ?_⟩
    have hmr : ev_hg (e2_mrg 8 f (e2_gset q.2 a j v) h) k = (Bool.rec (motive := fun _ => ev_C) (ev_hg (e2_gset q.2 a j v) k) (ev_hg h k) (e2_isF (ev_hg f k).1) : ev_C) := e2_mrg_ok 8 f (e2_gset q.2 a j v) h k
    have htag : (ev_hg (e2_gset q.2 a j v) k).1 = (ev_hg (e2_gset q.2 a j (7, 0, 0)) k).1 := by
      rw [e2_gset_at g1 hk, e2_gset_at g1 hk]
      by_cases hka : k = a
      · rw [if_pos hka, if_pos hka]
      · rw [if_neg hka, if_neg hka]
    cases hz : e2_isF (ev_hg f k).1 with
    | true =>
      rw [hz] at hmr
      rw [show ev_hg (e2_mrg 8 f (e2_gset q.2 a j v) h) k = ev_hg h k from hmr]
      have g := e2_isF_cases.1 hz
      have ht := (i3 k hk).1 (by rw [hft k hk]; exact hz)
      have ho4 := o4 k hk (by rw [hft k hk]; exact hz)
      rw [hft k hk] at ht ho4
      obtain ⟨a2, e2, y1, y2⟩ := hwo0.2.2.1 k hk
      have ht2 : (ev_hg (e2_gset q.2 a j v) k).1 = (ev_hg f k).1 := htag.trans ht
      have he : (ws[(ev_hg (e2_gset q.2 a j v) k).1 - 100]?).map Prod.snd = some e1 := by
        rcases z2 with ⟨x1, -⟩ | ⟨-, x1, -⟩ | ⟨x1, -⟩ | ⟨-, x1, -⟩ | ⟨-, x1⟩ | ⟨x1, -⟩ | ⟨x1, -⟩ | ⟨x1, -⟩
        · omega
        · omega
        · omega
        · omega
        · exact (x1 (by omega)).2 (by omega)
        · omega
        · omega
        · omega
      rw [ht2, ho4, show 100 + k - 100 = k by omega, y1] at he
      have he : e2 = e1 := Option.some.inj he
      rw [← he]
      exact y2
    | false =>
      rw [hz] at hmr
      rw [show ev_hg (e2_mrg 8 f (e2_gset q.2 a j v) h) k = ev_hg (e2_gset q.2 a j v) k from hmr]
      exact z2.swap (cA := e2_cB cA ws) (cA' := cA) rfl (fun t e ht h => h.1 ht) (by rw [htag]; exact (i3 k hk).2 (by rw [hft k hk]; exact hz))
/-- calls by such a contract -/
noncomputable def e2_orG (k0 a j n lo hi : Nat) (as0 : List ev_V) (Eb : e2_E) (f : ev_H) (res : e2_Rs) (base : e2_Call) : e2_Call := fun k as E h K =>
  e2_el (Nat.beq k k0) (e2_el (e2_if (e2_lle (e2_vl9 E) as0 as) (e2_if (e2_pre Eb.length Eb 0 E) (e2_if (Nat.blt (ev_hg h a).1 50) (e2_if (e2_get (ev_hg h a).2 j fun v => e2_vle E (11, lo, hi) v) (e2_hlf E 8 (e2_gset f a j (7, 0, 0)) h)))))
    (e2_get (ev_hg h a).2 j fun v => e2_allR res fun q => K q.1 E (e2_mrg 8 f (e2_gset q.2 a j v) h)) (base k as E h K)) (base k as E h K)
theorem e2_orG_ok {l : Launch} {d : Nat} {MT : List ev_M} {k0 a j n lo hi : Nat} {as0 : List ev_V} {Eb : e2_E} {f : ev_H} {res : e2_Rs} {base : e2_Call} (hbase : ∀ k M, MT[k]? = some M → ∀ as E h K, base k as E h K = true → e2_Met l M d as E h K) (hn : Eb.length = n) (hlh : lo ≤ hi) (hm : ∀ M, MT[k0]? = some M → e2_Met l M d as0 (Eb ++ [(lo, hi, n, 0)]) f (e2_fin res)) (ho : e2_okG n a j as0 f res) : ∀ k M, MT[k]? = some M → ∀ as E h K, e2_orG k0 a j n lo hi as0 Eb f res base k as E h K = true → e2_Met l M d as E h K := by
  intro k M hk as E h K hh
  rcases e2_el_t hh with ⟨z, hh1⟩ | ⟨-, hh1⟩
  · have z : k = k0 := Nat.eq_of_beq_eq_true z
    rcases e2_el_t hh1 with ⟨y, hh2⟩ | ⟨-, hh2⟩
    · obtain ⟨y1, y2⟩ := e2_if_t y
      obtain ⟨y3, y4⟩ := e2_if_t y2
      obtain ⟨y5, y6⟩ := e2_if_t y4
      obtain ⟨y7, y8⟩ := e2_if_t y6
      obtain ⟨v, v1, v2⟩ := e2_get_t y7
      obtain ⟨v', v3, v4⟩ := e2_get_t hh2
      rw [v1] at v3
      cases v3
      exact e2_orG_met hn hlh (hm M (by rw [← z]; exact hk)) ho y1 y3 (Nat.le_of_ble_eq_true y5) v1 v2 y8 (e2_allR_ok v4)
    · exact hbase k M hk as E h K hh2
  · exact hbase k M hk as E h K hh1
/-- a contract by the values of the second variable -/
theorem e2_Met.split1 {l : Launch} {M : ev_M} {d lo hi : Nat} {as : List ev_V} {E : e2_E} {f : ev_H} {F : e2_F} (hE : E[1]? = some (lo, hi, 1, 0)) (h : ∀ s, lo ≤ s → s ≤ hi → e2_Met l M d as (E.set 1 (s, s, 1, 0)) f F) : e2_Met l M d as E f F := by
  intro D cA ads r0 ws vs sz hsat hrel
  obtain ⟨k, kb, f1, f2, f3, -, -⟩ := hsat.get hE
  have hl := (List.getElem?_eq_some_iff.mp hE).1
  refine h k f2 f3 D cA ads r0 ws vs sz ⟨by rw [List.length_set]; exact hsat.1, fun i b hi' => ?_⟩ hrel
  rw [List.getElem?_set] at hi'
  by_cases hi1 : 1 = i
  · subst hi1
    rw [if_pos rfl, if_pos hl] at hi'
    cases hi'
    exact ⟨k, k, f1, Nat.le_refl _, Nat.le_refl _, f1, Nat.le_refl _⟩
  · rw [if_neg hi1] at hi'
    exact hsat.get hi'
/-- a contract out of walks, with any way of calls -/
theorem e2_conC {l : Launch} {H : Nat} {k nL : Nat} {C : List ev_I} {call : e2_Call} {as : List ev_V} {E : e2_E} {f : ev_H} {res : e2_Rs} (hm : e2_mOk k nL C) (hcall : ∀ d, H ≤ d → ∀ k M, e2_MT[k]? = some M → ∀ as E h K, call k as E h K = true → e2_Met l M d as E h K) (hlen : (e2_exp as).length ≤ nL) (hok : e2_okSB E.length as f res = true)
    (hg : ∀ (M : ev_M) (d : Nat), M.2.2.1 = nL → (∀ S, e2_okL e2_MT M.1.cls (M.1.name == "<init>") M.2.2.2 M.2.1 (e2_mark S C)) → (∀ k M, e2_MT[k]? = some M → ∀ as E h K, call k as E h K = true → e2_Met l M d as E h K) → ∀ (p : Program) (e : Env) (R : Room) (s : State) (m : MethodId) (args : Array Value) (below : List Frame) (meth : Method) (c : Code) (Q : State → Prop) (D : va_G) (cA : e2_cA) (A : Nat → Prop) (ads r0 : List Nat), e2_act M d (e2_fin res) p l e R s m args below meth c Q D cA A ads r0 → r0.length ≤ E.length → e2_gdM M p l e R s m args below meth c Q D cA A ads r0 0 (e2_al nL as) [] E f) : e2_smOk l (H + 1) (k, as, E, f, res) := by
  refine ⟨e2_okSB_ok hok, fun M hM d hd => ?_⟩
  obtain ⟨M', hM', hn, hpl, hC⟩ := hm
  have hM : e2_MT[k]? = some M := hM
  rw [hM] at hM'
  cases hM'
  cases d with
  | zero => omega
  | succ d =>
    refine e2_Met_ofG hpl (by rw [hn]; exact hlen) fun p e R s m args below meth c Q D cA A ads r0 ha => ?_
    rw [hn]
    exact e2_gdM.len fun hl => hg M d hn hC (hcall d (by omega)) p e R s m args below meth c Q D cA A ads r0 ha hl
/-- one of the values of the second variable: the contract that stands for it -/
theorem e2_part1 {l : Launch} {M : ev_M} {d H : Nat} {s : e2_Sm} {as : List ev_V} {E : e2_E} {f : ev_H} {res : e2_Rs} (hs : e2_smOk l H s) (hM : e2_MT[s.1]? = some M) (hd : H ≤ d) (hck : e2_if (e2_lle (e2_vl9 E) s.2.1 as) (e2_if (e2_pre s.2.2.1.length s.2.2.1 0 E) (e2_if (e2_hlf E 8 s.2.2.2.1 f) (e2_allR s.2.2.2.2 fun q => e2_fin res q.1 E (e2_mrg 8 s.2.2.2.1 q.2 f)))) = true) : e2_Met l M d as E f (e2_fin res) := by
  obtain ⟨h1, hk⟩ := e2_if_t hck
  obtain ⟨h2, hk⟩ := e2_if_t hk
  obtain ⟨h3, hk⟩ := e2_if_t hk
  exact e2_or_met (hs.2 M hM d hd) hs.1.1 hs.1.2 h1 h2 h3 (e2_allR_ok hk)
theorem e2_sat.snocF {r : List Nat} {E : e2_E} {u lo hi k b dd kb : Nat} (hE : E.length = u) (hs : e2_sat r E) (h1 : lo ≤ k) (h2 : k ≤ hi) (hb : b < u) (hkb : r[b]? = some kb) (hd : kb + dd ≤ k) : e2_sat (r ++ [k]) (E ++ [(lo, hi, b, dd)]) := by
  refine ⟨by rw [List.length_append, List.length_append, hs.1]; rfl, fun i bb hi' => ?_⟩
  by_cases hl : i < E.length
  · rw [List.getElem?_append_left hl] at hi'
    obtain ⟨k1, kb, f1, f2, f3, f4, f5⟩ := hs.get hi'
    exact ⟨k1, kb, by rw [List.getElem?_append_left (List.getElem?_eq_some_iff.mp f1).1]; exact f1, f2, f3, by rw [List.getElem?_append_left (List.getElem?_eq_some_iff.mp f4).1]; exact f4, f5⟩
  · have hb' := (List.getElem?_eq_some_iff.mp hi').1
    rw [List.length_append] at hb'
    have hi2 : i = E.length := by simp at hb'; omega
    subst hi2
    rw [List.getElem?_append_right (Nat.le_refl _), Nat.sub_self] at hi'
    cases hi'
    have hat : (r ++ [k])[u]? = some k := by rw [List.getElem?_append_right (by rw [hs.1, hE]; exact Nat.le_refl _), hs.1, hE, Nat.sub_self]; rfl
    exact ⟨k, kb, by rw [hE]; exact hat, h1, h2, by show (r ++ [k])[b]? = _; rw [List.getElem?_append_left (List.getElem?_eq_some_iff.mp hkb).1]; exact hkb, hd⟩
section E2EntF
variable {p : Program} {l : Launch} {e : Env} {R : Room} {s : State} {m : MethodId} {args : Array Value} {below : List Frame} {meth : Method} {c : Code} {Q : State → Prop}
variable {D : va_G} {cA : e2_cA} {A : Nat → Prop} {ads r0 : List Nat} {M : ev_M} {bp : Nat}
/-- the same, with a floor under the measure -/
theorem e2_entHF {al : List ev_V} {E : e2_E} {h h1 : ev_H} {u a j lo hi b dd : Nat} {B : e2_B} (hr0 : r0.length ≤ u) (hE : E.length = u + 1) (hEu : E[u]? = some (lo, hi, b, dd)) (hb : b < u) (hb8 : b < 8) (hEb : E[b]? = some B) (hlo : lo ≤ B.1 + dd) (ha133 : a < 133) (hat50 : (ev_hg h a).1 < 50) (hj : (ev_hg h a).2[j]? = some (1, u, 4294967296)) (hia : e2_idl u al = true) (hih : e2_idh u 8 (ev_hs h a ((ev_hg h a).1, (ev_hg h a).2.set j (7, 0, 0))) = true) (hh1 : h1 = ev_hs h a ((ev_hg h a).1, (ev_hg h a).2.set j (13, b + 8 * dd, hi))) (hg : e2_gdM M p l e R s m args below meth c Q D cA A ads r0 bp al [] E h) :
    ∀ al1 st1 E1 g1, e2_cutL al u (E.take u) h1 al1 st1 E1 g1 = true → e2_gdM M p l e R s m args below meth c Q D cA A ads r0 bp al1 st1 E1 g1 := by
  have hjl := (List.getElem?_eq_some_iff.mp hj).1
  intro al1 st1 E1 g1 hcut r1 ws1 H1 locs1 ls1 vs1 hp1 hs1 hwo1 hS1 hfr1 hst1
  obtain ⟨rfl, c1⟩ := e2_0_t hcut
  obtain ⟨c2, c3⟩ := e2_if_t c1
  obtain ⟨c4, c5⟩ := e2_if_t c3
  have hst1 := hst1.nil
  subst hst1
  have hwo2 := hwo1.le hs1 c5
  rw [hh1] at hwo2
  have hl : (E.take u).length = u := by rw [List.length_take]; omega
  obtain ⟨hlE, -⟩ := e2_pre_ok c4
  have hlu : (r1.take u).length = u := by rw [List.length_take, hs1.1]; omega
  obtain ⟨w, m2, hren⟩ := e2_wo.rename (h := h) (a := a) (j := j) (u := u) (g := (13, b + 8 * dd, hi)) hwo2 ha133 hat50 hj hih hlu
  obtain ⟨x, k0, rfl, m3, m4, m5⟩ := m2
  have m3 : r1[(b + 8 * dd) % 8]? = some k0 := m3
  have m4 : k0 + (b + 8 * dd) / 8 ≤ ev_key x := m4
  have m5 : ev_key x ≤ hi := m5
  rw [show (b + 8 * dd) % 8 = b by omega] at m3
  rw [show (b + 8 * dd) / 8 = dd by omega] at m4
  have hsu : e2_sat (r1.take u) (E.take u) := by
    have := hs1.take (c := E.take u) (by rw [hl]; exact c4)
    rw [hl] at this
    exact this
  have hl2 : (r1.take u).length = u := by rw [hsu.1]; exact hl
  have hbu : (r1.take u)[b]? = some k0 := by rw [List.getElem?_take, if_pos hb]; exact m3
  have hEb' : (E.take u)[b]? = some B := by rw [List.getElem?_take, if_pos hb]; exact hEb
  have hlb : B.1 ≤ k0 := by
    obtain ⟨k1, kb, f1, f2, -, -, -⟩ := hsu.get hEb'
    rw [hbu] at f1
    cases f1
    exact f2
  have hsat : e2_sat (r1.take u ++ [ev_key x]) E := by
    have := e2_sat.snocF (u := u) hl hsu (show lo ≤ ev_key x by omega) m5 hb hbu m4
    rw [e2_take_snoc hE hEu] at this
    exact this
  have hat : (r1.take u ++ [ev_key x])[u]? = some (ev_key x) := by rw [List.getElem?_append_right (by omega), hl2, Nat.sub_self]; rfl
  have hpre : ∃ y, r1.take u ++ [ev_key x] = r1.take u ++ y := ⟨_, rfl⟩
  exact hg _ ws1 H1 locs1 ls1 [] (e2_ext (e2_take_pre hp1 hr0) hpre) hsat (hren x rfl) hS1 (((hfr1.le hs1 c2).take hia).mono hpre) trivial
end E2EntF
section E2MeasL
variable {p : Program} {l : Launch} {e : Env} {R : Room} {s : State} {m : MethodId} {args : Array Value} {below : List Frame} {meth : Method} {c : Code} {Q : State → Prop}
variable {D : va_G} {cA : e2_cA} {A : Nat → Prop} {ads r0 : List Nat} {M : ev_M} {bp : Nat}
/-- several states at one head, one field as the measure of all -/
theorem e2_indHL {L : List (List ev_V × ev_H)} {E : e2_E} {u a j lo hi b dd : Nat} (hr0 : r0.length ≤ u) (hu8 : u < 8) (hE : E.length = u + 1) (hEu : E[u]? = some (lo, hi, b, dd)) (hb : b < u ∨ (b = u ∧ dd = 0)) (ha133 : a < 133) (hL : ∀ x ∈ L, (ev_hg x.2 a).1 < 50 ∧ (ev_hg x.2 a).2[j]? = some (1, u, 4294967296) ∧ e2_idl u x.1 = true ∧ e2_idh u 8 (ev_hs x.2 a ((ev_hg x.2 a).1, (ev_hg x.2 a).2.set j (7, 0, 0))) = true)
    (hbody : ∀ x ∈ L, ∀ (r : List Nat) (k : Nat), r[u]? = some k → (∃ y, r = r0 ++ y) → e2_sat r E → (∀ y ∈ L, ∀ al1 st1 E1 g1, e2_cutL y.1 u (E.take u) (ev_hs y.2 a ((ev_hg y.2 a).1, (ev_hg y.2 a).2.set j (13, u + 8, hi))) al1 st1 E1 g1 = true → e2_gdM M p l e R s m args below meth c Q D cA A ads r bp al1 st1 E1 g1) → e2_gdM M p l e R s m args below meth c Q D cA A ads r bp x.1 [] E x.2) : ∀ x ∈ L, e2_gdM M p l e R s m args below meth c Q D cA A ads r0 bp x.1 [] E x.2 := by
  have key : ∀ (n : Nat) (r : List Nat) (ws : va_W) (H : Heap) (locs : List Loc) (ls : Array Slot) (vs : List Value) (k : Nat) (X : List ev_V × ev_H), X ∈ L → r[u]? = some k → hi - k < n → (∃ x, r = r0 ++ x) → e2_sat r E → e2_wo D cA A ads r ws X.2 H → va_S A s.heap H locs → e2_fr ads r M.2.2.1 X.1 ls → e2_relS ads r [] vs → W p l e R s m args below meth c H locs 0 0 Q (F0 m bp ls vs) := by
    intro n
    induction n with
    | zero => intro r ws H locs ls vs k X _ _ hn; omega
    | succ n ih =>
      intro r ws H locs ls vs k X hX hk hn hp hs hwo hS hfr hst
      have hg := hbody X hX r k hk hp hs (fun Y hY al1 st1 E1 g1 hcut => ?_)
      · exact hg r ws H locs ls vs ⟨[], by simp⟩ hs hwo hS hfr hst
      · obtain ⟨al, h⟩ := Y
        obtain ⟨hat50, hj, hia, hih⟩ := hL _ hY
        have hjl := (List.getElem?_eq_some_iff.mp hj).1
        intro r1 ws1 H1 locs1 ls1 vs1 hp1 hs1 hwo1 hS1 hfr1 hst1
        obtain ⟨rfl, c1⟩ := e2_0_t hcut
        obtain ⟨c2, c3⟩ := e2_if_t c1
        obtain ⟨c4, c5⟩ := e2_if_t c3
        have hst1 := hst1.nil
        subst hst1
        have hwo2 := hwo1.le hs1 c5
        obtain ⟨hlE, -⟩ := e2_pre_ok c4
        have hlE : u ≤ E1.length := by have : (E.take u).length = u := by rw [List.length_take]; omega
                                       omega
        have hlu : (r1.take u).length = u := by rw [List.length_take, hs1.1]; omega
        obtain ⟨w, m2, hren⟩ := e2_wo.rename (h := h) (a := a) (j := j) (u := u) (g := (13, u + 8, hi)) hwo2 ha133 hat50 hj hih hlu
        obtain ⟨x, k0, rfl, m3, m4, m5⟩ := m2
        have m3 : r1[(u + 8) % 8]? = some k0 := m3
        have m4 : k0 + (u + 8) / 8 ≤ ev_key x := m4
        have m5 : ev_key x ≤ hi := m5
        rw [show (u + 8) % 8 = u by omega] at m3
        have hk0 : k0 = k := by
          obtain ⟨y, rfl⟩ := hp1
          rw [List.getElem?_append_left (List.getElem?_eq_some_iff.mp hk).1, hk] at m3
          exact (Option.some.inj m3).symm
        have hsat := e2_sat.grow hE hs hk hs1 c4 hp1 (show k ≤ ev_key x by omega) m5 hEu hb
        have hl2 : (r1.take u).length = u := by
          have := hsat.1
          rw [List.length_append, hE] at this
          simpa using this
        have hat : (r1.take u ++ [ev_key x])[u]? = some (ev_key x) := by rw [List.getElem?_append_right (by omega), hl2, Nat.sub_self]; rfl
        have hpre : ∃ y, r1.take u ++ [ev_key x] = r1.take u ++ y := ⟨_, rfl⟩
        exact ih (r1.take u ++ [ev_key x]) ws1 H1 locs1 ls1 [] (ev_key x) (al, h) hY hat (by omega) (e2_ext (e2_take_pre (e2_ext hp hp1) hr0) hpre) hsat (hren x rfl) hS1 (((hfr1.le hs1 c2).take hia).mono hpre) trivial
  intro X hX r ws H locs ls vs hp hs hwo hS hfr hst
  obtain ⟨k, -, f1, -⟩ := hs.get hEu
  exact key (hi - k + 1) r ws H locs ls vs k X hX f1 (by omega) hp hs hwo hS hfr hst
end E2MeasL
