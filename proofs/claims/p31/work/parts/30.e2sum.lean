/-! SUMMARIES OF CALLS: what a contract says, taken at a call; cells that the callee leaves alone stay as the caller knows them -/
abbrev e2_Rs : Type := List (ev_V × ev_H)
noncomputable def e2_fv1 (E : e2_E) (g v : ev_V) : Bool := e2_el (Nat.beq g.1 9) (Nat.beq v.1 9) (e2_if (!(Nat.beq v.1 9)) (e2_if (!(Nat.beq g.1 7)) (e2_vle E g v)))
noncomputable def e2_fin (res : e2_Rs) : e2_F := fun v E h => List.rec (motive := fun _ => Bool) false (fun q _ ih => e2_el (e2_if (e2_fv1 E q.1 v) (e2_hle E 8 q.2 h)) true ih) res
theorem e2_fin_ok : ∀ {res : e2_Rs} {v : ev_V} {E : e2_E} {h : ev_H}, e2_fin res v E h = true → ∃ q ∈ res, e2_fv1 E q.1 v = true ∧ e2_hle E 8 q.2 h = true := by
  intro res
  induction res with
  | nil => intro v E h hh; exact absurd hh (by simp [e2_fin])
  | cons q r ih =>
    intro v E h hh
    rcases e2_el_t (show e2_el (e2_if (e2_fv1 E q.1 v) (e2_hle E 8 q.2 h)) true (e2_fin r v E h) = true from hh) with ⟨z, -⟩ | ⟨-, z⟩
    · exact ⟨q, List.mem_cons_self, e2_if_t z⟩
    · obtain ⟨q', q1, q2⟩ := ih z
      exact ⟨q', List.mem_cons_of_mem _ q1, q2⟩
theorem e2_ret.le {E : e2_E} {ads r : List Nat} {g v : ev_V} {w : Option Value} (hs : e2_sat r E) (h : e2_ret ads r v w) (hg : e2_fv1 E g v = true) : e2_ret ads r g w := by
  rcases e2_el_t hg with ⟨z1, z2⟩ | ⟨z1, z2⟩
  · have z1 : g.1 = 9 := Nat.eq_of_beq_eq_true z1
    have z2 : v.1 = 9 := Nat.eq_of_beq_eq_true z2
    rcases h with ⟨-, h⟩ | ⟨h, -⟩
    · exact Or.inl ⟨z1, h⟩
    · exact absurd z2 h
  · obtain ⟨z3, z4⟩ := e2_if_t z2
    obtain ⟨z5, z6⟩ := e2_if_t z4
    have n9 : v.1 ≠ 9 := fun q => by rw [q] at z3; exact absurd z3 (by decide)
    have g9 : g.1 ≠ 9 := fun q => by rw [q] at z1; exact absurd z1 (by decide)
    have g7 : g.1 ≠ 7 := fun q => by rw [q] at z5; exact absurd z5 (by decide)
    rcases h with ⟨h, -⟩ | ⟨-, -, x, h1, h2⟩
    · exact absurd h n9
    · exact Or.inr ⟨g9, g7, x, h1, e2_vle_ok z6 hs h2⟩
theorem e2_ret.take {n : Nat} {ads r : List Nat} {v : ev_V} {w : Option Value} (h : e2_ret ads r v w) (hi : e2_idv n v = true) : e2_ret ads (r.take n) v w := by
  rcases h with h | ⟨h1, h2, x, h3, h4⟩
  · exact Or.inl h
  · exact Or.inr ⟨h1, h2, x, h3, e2_idv_ok hi h4⟩
theorem e2_ret.mono {ads r r' : List Nat} {v : ev_V} {w : Option Value} (h : e2_ret ads r v w) (hp : ∃ x, r' = r ++ x) : e2_ret ads r' v w := by
  rcases h with h | ⟨h1, h2, x, h3, h4⟩
  · exact Or.inl h
  · exact Or.inr ⟨h1, h2, x, h3, h4.mono hp⟩
noncomputable def e2_isF (t : Nat) : Bool := e2_if (Nat.ble 100 t) (Nat.blt t 999)
/-- the predicates behind a call: of the frozen cells their contents, of the others as they were -/
def e2_cB (cA : e2_cA) (ws : va_W) : e2_cA := (cA.1, fun t e => (t < 100 → cA.2 t e) ∧ (100 ≤ t → (ws[t - 100]?).map Prod.snd = some e))
/-- the actual heap against the formal one, but for its frozen cells -/
noncomputable def e2_hlf (E : e2_E) (n : Nat) (a b : ev_T ev_C n) : Bool := e2_allI (e2_idx n a 0 1 []) fun i => ev_fN i fun i => ev_tget n a i fun x => ev_tget n b i fun y => e2_cle E x y
/-- behind the call: the frozen cells of the caller's, the others of the result's -/
noncomputable def e2_mrg (n : Nat) : ev_T ev_C n → ev_T ev_C n → ev_T ev_C n → ev_T ev_C n :=
  Nat.rec (motive := fun n => ev_T ev_C n → ev_T ev_C n → ev_T ev_C n → ev_T ev_C n) (fun f q h => Bool.rec (motive := fun _ => ev_C) q h (e2_isF (show ev_C from f).1)) (fun n ih f q h => Prod.rec (motive := fun _ => ev_T ev_C (n + 1)) (fun (f1 : ev_T ev_C n) (f2 : ev_T ev_C n) => Prod.rec (motive := fun _ => ev_T ev_C (n + 1)) (fun (q1 : ev_T ev_C n) (q2 : ev_T ev_C n) => Prod.rec (motive := fun _ => ev_T ev_C (n + 1)) (fun (h1 : ev_T ev_C n) (h2 : ev_T ev_C n) => ((ih f1 q1 h1, ih f2 q2 h2) : ev_T ev_C n × ev_T ev_C n)) (h : ev_T ev_C n × ev_T ev_C n)) (q : ev_T ev_C n × ev_T ev_C n)) (f : ev_T ev_C n × ev_T ev_C n)) n
theorem e2_hlf_ok {E : e2_E} (n : Nat) (a b : ev_T ev_C n) (h : e2_hlf E n a b = true) (k : Nat) (hk : k < 2 ^ n) : e2_isF (ev_tget n a k id : ev_C).1 = true ∨ e2_cle E (ev_tget n a k id) (ev_tget n b k id) = true := by
  by_cases ht : (ev_tget n a k id : ev_C).1 < 100
  · exact Or.inr (e2_idx_cle h hk ht)
  · by_cases h9 : 999 ≤ (ev_tget n a k id : ev_C).1
    · exact Or.inr (e2_cle_op (by omega) (Or.inl h9))
    · left
      show e2_if (Nat.ble 100 _) (Nat.blt _ 999) = true
      rw [Nat.ble_eq_true_of_le (show 100 ≤ (ev_tget n a k id : ev_C).1 by omega)]
      exact Nat.ble_eq_true_of_le (show (ev_tget n a k id : ev_C).1 + 1 ≤ 999 by omega)
theorem e2_mrg_ok : ∀ (n : Nat) (f q h : ev_T ev_C n) (k : Nat), ev_tget n (e2_mrg n f q h) k id = (Bool.rec (motive := fun _ => ev_C) (ev_tget n q k id) (ev_tget n h k id) (e2_isF (ev_tget n f k id : ev_C).1) : ev_C) := by
  intro n
  induction n with
  | zero => intro f q h k; rfl
  | succ n ih =>
    intro f q h k
    obtain ⟨f1, f2, rfl⟩ : ∃ (l r : ev_T ev_C n), f = (show ev_T ev_C (n + 1) from ((l, r) : ev_T ev_C n × ev_T ev_C n)) := ⟨(show ev_T ev_C n × ev_T ev_C n from f).1, (show ev_T ev_C n × ev_T ev_C n from f).2, rfl⟩
    obtain ⟨q1, q2, rfl⟩ : ∃ (l r : ev_T ev_C n), q = (show ev_T ev_C (n + 1) from ((l, r) : ev_T ev_C n × ev_T ev_C n)) := ⟨(show ev_T ev_C n × ev_T ev_C n from q).1, (show ev_T ev_C n × ev_T ev_C n from q).2, rfl⟩
    obtain ⟨h1, h2, rfl⟩ : ∃ (l r : ev_T ev_C n), h = (show ev_T ev_C (n + 1) from ((l, r) : ev_T ev_C n × ev_T ev_C n)) := ⟨(show ev_T ev_C n × ev_T ev_C n from h).1, (show ev_T ev_C n × ev_T ev_C n from h).2, rfl⟩
    have g1 := ih f1 q1 h1 (Nat.div k 2)
    have g2 := ih f2 q2 h2 (Nat.div k 2)
    show (Bool.rec (motive := fun _ => ev_C) (ev_tget n (e2_mrg n f1 q1 h1) (Nat.div k 2) id) (ev_tget n (e2_mrg n f2 q2 h2) (Nat.div k 2) id) (Nat.beq (Nat.mod k 2) 1) : ev_C) = (Bool.rec (motive := fun _ => ev_C) (Bool.rec (motive := fun _ => ev_C) (ev_tget n q1 (Nat.div k 2) id) (ev_tget n q2 (Nat.div k 2) id) (Nat.beq (Nat.mod k 2) 1) : ev_C) (Bool.rec (motive := fun _ => ev_C) (ev_tget n h1 (Nat.div k 2) id) (ev_tget n h2 (Nat.div k 2) id) (Nat.beq (Nat.mod k 2) 1) : ev_C) (e2_isF (Bool.rec (motive := fun _ => ev_C) (ev_tget n f1 (Nat.div k 2) id) (ev_tget n f2 (Nat.div k 2) id) (Nat.beq (Nat.mod k 2) 1) : ev_C).1) : ev_C)
    cases Nat.beq (Nat.mod k 2) 1
    · exact g1
    · exact g2
/-- what is to be known of a summary itself: names below n, frozen cells by their own number and frozen still behind it -/
def e2_okS (n : Nat) (as : List ev_V) (f : ev_H) (res : e2_Rs) : Prop := e2_idl n as = true ∧ (∀ v ∈ as, v.1 ≠ 9) ∧ e2_idh n 8 f = true ∧ (∀ k, k < 133 → e2_isF (ev_hg f k).1 = true → (ev_hg f k).1 = 100 + k) ∧ ∀ q ∈ res, e2_idv n q.1 = true ∧ e2_idh n 8 q.2 = true ∧ ∀ k, k < 133 → (e2_isF (ev_hg f k).1 = true → (ev_hg q.2 k).1 = (ev_hg f k).1) ∧ (e2_isF (ev_hg f k).1 = false → e2_isF (ev_hg q.2 k).1 = false)
/-- of the cells of a joint invariant all are frozen, or none -/
def e2_mix (f : ev_H) : Prop := ∀ cs ∈ e2_Jc, (∀ k ∈ cs, e2_isF (ev_hg f k).1 = true) ∨ (∀ k ∈ cs, e2_isF (ev_hg f k).1 = false)
noncomputable def e2_allR (res : e2_Rs) (k : ev_V × ev_H → Bool) : Bool := List.rec (motive := fun _ => Bool) true (fun q _ ih => e2_if (k q) ih) res
theorem e2_allR_ok {k : ev_V × ev_H → Bool} : ∀ {res : e2_Rs}, e2_allR res k = true → ∀ q ∈ res, k q = true := by
  intro res
  induction res with
  | nil => intro _ q hq; cases hq
  | cons x r ih =>
    intro h q hq
    obtain ⟨h1, h2⟩ := e2_if_t (show e2_if (k x) (e2_allR r k) = true from h)
    rcases List.mem_cons.mp hq with rfl | hq
    · exact h1
    · exact ih h2 q hq
noncomputable def e2_or (k0 : Nat) (as0 : List ev_V) (E0 : e2_E) (f : ev_H) (res : e2_Rs) (base : e2_Call) : e2_Call := fun k as E h K => e2_el (Nat.beq k k0) (e2_el (e2_if (e2_lle (e2_vl9 E) as0 as) (e2_if (e2_pre E0.length E0 0 E) (e2_hlf E 8 f h))) (e2_allR res fun q => K q.1 E (e2_mrg 8 f q.2 h)) (base k as E h K)) (base k as E h K)
theorem e2_isF_cases {t : Nat} : (e2_isF t = true → 100 ≤ t ∧ t < 999) ∧ (e2_isF t = false → t < 100 ∨ 999 ≤ t) := by
  constructor
  · intro h
    obtain ⟨h1, h2⟩ := e2_if_t h
    exact ⟨Nat.le_of_ble_eq_true h1, Nat.le_of_ble_eq_true h2⟩
  · intro h
    by_cases z : 100 ≤ t ∧ t < 999
    · have : e2_isF t = true := by
        show e2_if (Nat.ble 100 t) (Nat.blt t 999) = true
        rw [Nat.ble_eq_true_of_le z.1]
        exact Nat.ble_eq_true_of_le z.2
      rw [h] at this
      cases this
    · omega
theorem e2_relC.swap {cA cA' : e2_cA} {ads r : List Nat} {tag : Nat} {l : List ev_V} {e : va_E} (h : e2_relC cA ads r tag l e) (h1 : cA'.1 = cA.1) (hb : ∀ t e, t < 100 → cA.2 t e → cA'.2 t e) (hf : e2_isF tag = false) : e2_relC cA' ads r tag l e := by
  rcases h with h | ⟨z0, z1, f, z2, z3⟩ | ⟨z0, n, b, f, z1, z2⟩ | ⟨z0, z1, n, b, lo, hi, f, z2, z3, z4⟩ | ⟨z0, z1⟩ | ⟨z0, n, b, lo, hi, c, f, z2, z3, z4⟩ | ⟨z0, f, z2, z3⟩ | ⟨z0, f, z2, z3⟩
  · exact Or.inl h
  · exact Or.inr (Or.inl ⟨z0, z1, f, by rw [h1]; exact z2, z3⟩)
  · exact Or.inr (Or.inr (Or.inl ⟨z0, n, b, f, z1, by rw [h1]; exact z2⟩))
  · exact Or.inr (Or.inr (Or.inr (Or.inl ⟨z0, z1, n, b, lo, hi, f, z2, by rw [h1]; exact z3, z4⟩)))
  · have := e2_isF_cases.2 hf
    exact Or.inr (Or.inr (Or.inr (Or.inr (Or.inl ⟨z0, fun q => hb _ _ (by omega) (z1 q)⟩))))
  · exact Or.inr (Or.inr (Or.inr (Or.inr (Or.inr (Or.inl ⟨z0, n, b, lo, hi, c, f, z2, by rw [h1]; exact z3, z4⟩)))))
  · exact Or.inr (Or.inr (Or.inr (Or.inr (Or.inr (Or.inr (Or.inl ⟨z0, f, by rw [h1]; exact z2, z3⟩))))))
  · exact Or.inr (Or.inr (Or.inr (Or.inr (Or.inr (Or.inr (Or.inr ⟨z0, f, by rw [h1]; exact z2, z3⟩))))))
theorem e2_or_met {l : Launch} {M : ev_M} {d : Nat} {as0 as : List ev_V} {E0 E : e2_E} {f h : ev_H} {res : e2_Rs} {K : e2_F} (hm : e2_Met l M d as0 E0 f (e2_fin res)) (ho : e2_okS E0.length as0 f res) (o6 : e2_mix f) (h1 : e2_lle (e2_vl9 E) as0 as = true) (h2 : e2_pre E0.length E0 0 E = true) (h3 : e2_hlf E 8 f h = true) (hK : ∀ q ∈ res, K q.1 E (e2_mrg 8 f q.2 h) = true) : e2_Met l M d as E h K := by
  obtain ⟨o1, o2, o3, o4, o5⟩ := ho
  intro D cA ads r0 ws vs sz hsat hrel
  have hsat0 := hsat.take h2
  have hpre0 : ∃ x, r0 = r0.take E0.length ++ x := ⟨r0.drop E0.length, (List.take_append_drop _ _).symm⟩
  have htk : ∀ {st : List ev_V} {vs : List Value}, e2_idl E0.length st = true → e2_relS ads r0 st vs → e2_relS ads (r0.take E0.length) st vs := by
    intro st
    induction st with
    | nil => intro vs _ h; rw [h.nil]; exact trivial
    | cons v st ih =>
      intro vs hi h
      obtain ⟨i1, i2⟩ := e2_if_t (show e2_if (e2_idv E0.length v) (e2_idl E0.length st) = true from hi)
      obtain ⟨w, ws, rfl, g1, g7, g2⟩ := h.cons
      exact ⟨e2_idv_ok i1 g1, g7, ih i2 g2⟩
  have hrel0 := htk o1 (e2_relS.le hsat h1 o2 hrel)
  refine MetFree.mono (hm D (e2_cB cA ws) ads (r0.take E0.length) ws vs sz hsat0 hrel0) (fun a U hp => ?_) (fun _ _ _ _ _ h => h) (fun a U o t hp hq => ?_)
  · obtain ⟨p0, p1, p2, p3, p4⟩ := hp
    refine ⟨p0, p1, ?_, p3, p4⟩
    obtain ⟨w1, w2, w3, w4, w5, wJ⟩ := p2
    have w6 : e2_wo D (e2_cB cA ws) (fun _ => True) ads r0 ws f U.heap := by
      refine ⟨w1, ⟨w2.1, w2.2.swap rfl fun t e ht => ⟨fun h => h.1 ht, fun h => ⟨fun _ => h, fun q => by omega⟩⟩⟩, fun k hk => ?_, w4, w5, wJ.tags fun k hk hz => ?_⟩
      rotate_left
      · rcases e2_hlf_ok 8 f h h3 k (by omega) with z | z
        · have := e2_isF_cases.1 z
          have hz : (ev_tget 8 f k id : ev_C).1 = 57 ∨ (ev_tget 8 f k id : ev_C).1 = 58 := hz
          omega
        · exact e2_cle_tag z hz
      obtain ⟨q, e, z1, z2⟩ := w3 k hk
      refine ⟨q, e, z1, ?_⟩
      cases hz : e2_isF (ev_hg f k).1 with
      | true =>
        have g := e2_isF_cases.1 hz
        refine Or.inr (Or.inr (Or.inr (Or.inr (Or.inl ⟨by omega, fun _ => ⟨fun q => by omega, fun _ => ?_⟩⟩))))
        show (ws[(ev_hg f k).1 - 100]?).map Prod.snd = some e
        rw [o4 k hk hz, show 100 + k - 100 = k by omega, z1]
        rfl
      | false =>
        rcases e2_hlf_ok 8 f h h3 k (by omega) with z | z
        · rw [show e2_isF (ev_tget 8 f k id : ev_C).1 = false from hz] at z
          cases z
        · exact (z2.le hsat z).swap rfl (fun t e ht h => ⟨fun _ => h, fun q => by omega⟩) hz
    exact w6.take o3
  · obtain ⟨⟨v, E1, g1, r1, ws1, w, q1, q2, q3, q4, q5, q6⟩, q7⟩ := hq.1
    obtain ⟨-, -, hwo0, -, -⟩ := hp
    refine ⟨⟨?_, q7⟩, hq.2⟩
    obtain ⟨q, m1, m2, m3⟩ := e2_fin_ok q1
    obtain ⟨i1, i2, i3⟩ := o5 q m1
    have hlen : (r0.take E0.length).length = E0.length := by rw [hsat0.1]
    have hr1 : r1.take E0.length = r0.take E0.length := by
      obtain ⟨x, rfl⟩ := q3
      rw [List.take_append, hlen, Nat.sub_self, List.take_zero, List.append_nil]
      exact List.take_of_length_le (by omega)
    have hwo1 := ((q5.le q4 m3).take i2)
    rw [hr1] at hwo1
    have hwo1 := hwo1.mono hpre0
    have hret := ((q6.le q4 m2).take i1)
    rw [hr1] at hret
    refine ⟨q.1, E, e2_mrg 8 f q.2 h, r0, ws1, w, hK q m1, q2, ⟨[], by simp⟩, hsat, ?_, hret.mono hpre0⟩
    obtain ⟨w1, w2, w3, w4, w5, wJ⟩ := hwo1
    have hmr0 : ∀ k, ev_hg (e2_mrg 8 f q.2 h) k = (Bool.rec (motive := fun _ => ev_C) (ev_hg q.2 k) (ev_hg h k) (e2_isF (ev_hg f k).1) : ev_C) := fun k => e2_mrg_ok 8 f q.2 h k
    have hfz : ∀ k, k < 133 → e2_isF (ev_hg f k).1 = true → (ws1[k]?).map Prod.snd = (ws[k]?).map Prod.snd := by
      intro k hk hz
      obtain ⟨a1, e1, z1, z2⟩ := w3 k hk
      have g := e2_isF_cases.1 hz
      have ht := (i3 k hk).1 hz
      have he : (ws[(ev_hg q.2 k).1 - 100]?).map Prod.snd = some e1 := by
        rcases z2 with ⟨x1, -⟩ | ⟨-, x1, -⟩ | ⟨x1, -⟩ | ⟨-, x1, -⟩ | ⟨-, x1⟩ | ⟨x1, -⟩ | ⟨x1, -⟩ | ⟨x1, -⟩
        · omega
        · omega
        · omega
        · omega
        · exact (x1 (by omega)).2 (by omega)
        · omega
        · omega
        · omega
      rw [ht, o4 k hk hz, show 100 + k - 100 = k by omega] at he
      rw [he, z1]
      rfl
    refine ⟨w1, ⟨w2.1, hwo0.2.1.2⟩, fun k hk => ?_, w4, w5, fun cs hcs hgd => ?_⟩
    rotate_left
    · obtain ⟨j0, -, -, -, jk⟩ := e2_Jc_in hcs
      rcases o6 cs hcs with ha | hn
      · have hh : ∀ k ∈ cs, ev_hg (e2_mrg 8 f q.2 h) k = ev_hg h k := fun k hk => by rw [hmr0 k, ha k hk]
        have gd : e2_Jgd cs h := ⟨by rw [← hh _ j0]; exact hgd.1, fun k hk => by rw [← hh k hk]; exact hgd.2 k hk⟩
        obtain ⟨s0', fs0, b1, b6, b2, b7⟩ := hwo0.2.2.2.2.2 cs hcs gd
        obtain ⟨-, -, -, ci, -⟩ := e2_Jc_in hcs
        refine ⟨s0', fs0, b1, b6, fun i hi => ?_, b7⟩
        obtain ⟨t', n', e'⟩ := b2 i hi
        exact ⟨t', n', by rw [hfz _ (jk _ (ci i hi)) (ha _ (ci i hi))]; exact e'⟩
      · have hh : ∀ k ∈ cs, ev_hg (e2_mrg 8 f q.2 h) k = ev_hg q.2 k := fun k hk => by rw [hmr0 k, hn k hk]
        exact wJ cs hcs ⟨by rw [← hh _ j0]; exact hgd.1, fun k hk => by rw [← hh k hk]; exact hgd.2 k hk⟩
    obtain ⟨a1, e1, z1, z2⟩ := w3 k hk
    refine ⟨a1, e1, z1, ?_⟩
    have hmr : ev_hg (e2_mrg 8 f q.2 h) k = (Bool.rec (motive := fun _ => ev_C) (ev_hg q.2 k) (ev_hg h k) (e2_isF (ev_hg f k).1) : ev_C) := e2_mrg_ok 8 f q.2 h k
    cases hz : e2_isF (ev_hg f k).1 with
    | true =>
      rw [hz] at hmr
      rw [show ev_hg (e2_mrg 8 f q.2 h) k = ev_hg h k from hmr]
      have g := e2_isF_cases.1 hz
      have ht := (i3 k hk).1 hz
      obtain ⟨a2, e2, y1, y2⟩ := hwo0.2.2.1 k hk
      have he : (ws[(ev_hg q.2 k).1 - 100]?).map Prod.snd = some e1 := by
        rcases z2 with ⟨x1, -⟩ | ⟨-, x1, -⟩ | ⟨x1, -⟩ | ⟨-, x1, -⟩ | ⟨-, x1⟩ | ⟨x1, -⟩ | ⟨x1, -⟩ | ⟨x1, -⟩
        · omega
        · omega
        · omega
        · omega
        · exact (x1 (by omega)).2 (by omega)
        · omega
        · omega
        · omega
      rw [ht, o4 k hk hz, show 100 + k - 100 = k by omega, y1] at he
      have he : e2 = e1 := Option.some.inj he
      rw [← he]
      exact y2
    | false =>
      rw [hz] at hmr
      rw [show ev_hg (e2_mrg 8 f q.2 h) k = ev_hg q.2 k from hmr]
      exact z2.swap (cA := e2_cB cA ws) (cA' := cA) rfl (fun t e ht h => h.1 ht) ((i3 k hk).2 hz)
theorem e2_or_ok {l : Launch} {d : Nat} {MT : List ev_M} {k0 : Nat} {as0 : List ev_V} {E0 : e2_E} {f : ev_H} {res : e2_Rs} {base : e2_Call} (hbase : ∀ k M, MT[k]? = some M → ∀ as E h K, base k as E h K = true → e2_Met l M d as E h K) (hm : ∀ M, MT[k0]? = some M → e2_Met l M d as0 E0 f (e2_fin res)) (ho : e2_okS E0.length as0 f res) (o6 : e2_mix f) : ∀ k M, MT[k]? = some M → ∀ as E h K, e2_or k0 as0 E0 f res base k as E h K = true → e2_Met l M d as E h K := by
  intro k M hk as E h K hh
  rcases e2_el_t hh with ⟨z, hh1⟩ | ⟨-, hh1⟩
  · have z : k = k0 := Nat.eq_of_beq_eq_true z
    rcases e2_el_t hh1 with ⟨y, hh2⟩ | ⟨-, hh2⟩
    · obtain ⟨y1, y2⟩ := e2_if_t y
      obtain ⟨y3, y4⟩ := e2_if_t y2
      exact e2_or_met (hm M (by rw [← z]; exact hk)) ho o6 y1 y3 y4 (e2_allR_ok hh2)
    · exact hbase k M hk as E h K hh2
  · exact hbase k M hk as E h K hh1
