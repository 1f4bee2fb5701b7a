/-! CELLS THAT STAY: a contract that knows a cell by its mark alone (tag 60 to 998) holds whatever lies there, and keeps it -/
def ev_fzP (x y z : ev_C) : Prop := (999 ≤ x.1 ∧ z = x) ∨ (60 ≤ x.1 ∧ x.1 < 999 ∧ z = y) ∨ (x.1 < 54 ∧ x.1 = y.1 ∧ ev_lle ev_vl7 x.2 y.2 = true ∧ z = x)
noncomputable def ev_fz (n : Nat) : ev_T ev_C n → ev_T ev_C n → (ev_T ev_C n → ev_R) → ev_R :=
  Nat.rec (motive := fun n => ev_T ev_C n → ev_T ev_C n → (ev_T ev_C n → ev_R) → ev_R) (fun a b k => Bool.rec (motive := fun _ => ev_R) (Bool.rec (motive := fun _ => ev_R) (ev_if (Nat.blt (show ev_C from a).1 54) (ev_if (Nat.beq (show ev_C from a).1 (show ev_C from b).1) (ev_if (ev_lle ev_vl7 (show ev_C from a).2 (show ev_C from b).2) (k a)))) (k b) (Nat.ble 60 (show ev_C from a).1)) (k a) (Nat.ble 999 (show ev_C from a).1)) (fun n ih a b k => Prod.rec (motive := fun _ => ev_R) (fun (a1 : ev_T ev_C n) (a2 : ev_T ev_C n) => Prod.rec (motive := fun _ => ev_R) (fun (b1 : ev_T ev_C n) (b2 : ev_T ev_C n) => ih a1 b1 (fun l => ih a2 b2 (fun r => k ((l, r) : ev_T ev_C n × ev_T ev_C n)))) (b : ev_T ev_C n × ev_T ev_C n)) (a : ev_T ev_C n × ev_T ev_C n)) n
theorem ev_fz_some : ∀ (n : Nat) (a b : ev_T ev_C n) (k : ev_T ev_C n → ev_R) {r}, ev_fz n a b k = some r → ∃ t, k t = some r ∧ ∀ i, ev_fzP (ev_tget n a i id) (ev_tget n b i id) (ev_tget n t i id) := by
  intro n
  induction n with
  | zero =>
    intro a b k r h
    have h' : Bool.rec (motive := fun _ => ev_R) (Bool.rec (motive := fun _ => ev_R) (ev_if (Nat.blt (show ev_C from a).1 54) (ev_if (Nat.beq (show ev_C from a).1 (show ev_C from b).1) (ev_if (ev_lle ev_vl7 (show ev_C from a).2 (show ev_C from b).2) (k a)))) (k b) (Nat.ble 60 (show ev_C from a).1)) (k a) (Nat.ble 999 (show ev_C from a).1) = some r := h
    cases h1 : Nat.ble 999 (show ev_C from a).1 with
    | true =>
      have h2 : k a = some r := by rw [h1] at h'; exact h'
      exact ⟨a, h2, fun i => Or.inl ⟨Nat.le_of_ble_eq_true h1, rfl⟩⟩
    | false =>
      have h2 : Bool.rec (motive := fun _ => ev_R) (ev_if (Nat.blt (show ev_C from a).1 54) (ev_if (Nat.beq (show ev_C from a).1 (show ev_C from b).1) (ev_if (ev_lle ev_vl7 (show ev_C from a).2 (show ev_C from b).2) (k a)))) (k b) (Nat.ble 60 (show ev_C from a).1) = some r := by rw [h1] at h'; exact h'
      have h9 : ¬ 999 ≤ (show ev_C from a).1 := fun z => by rw [Nat.ble_eq_true_of_le z] at h1; cases h1
      cases h3 : Nat.ble 60 (show ev_C from a).1 with
      | true =>
        have h4 : k b = some r := by rw [h3] at h2; exact h2
        exact ⟨b, h4, fun i => Or.inr (Or.inl ⟨Nat.le_of_ble_eq_true h3, Nat.lt_of_not_le h9, rfl⟩)⟩
      | false =>
        have h4 : ev_if (Nat.blt (show ev_C from a).1 54) (ev_if (Nat.beq (show ev_C from a).1 (show ev_C from b).1) (ev_if (ev_lle ev_vl7 (show ev_C from a).2 (show ev_C from b).2) (k a))) = some r := by rw [h3] at h2; exact h2
        obtain ⟨z1, h5⟩ := ev_if_some h4
        obtain ⟨z2, h6⟩ := ev_if_some h5
        obtain ⟨z3, h7⟩ := ev_if_some h6
        exact ⟨a, h7, fun i => Or.inr (Or.inr ⟨Nat.le_of_ble_eq_true z1, Nat.eq_of_beq_eq_true z2, z3, rfl⟩)⟩
  | succ n ih =>
    intro a b k r h
    obtain ⟨a1, a2, rfl⟩ : ∃ (l r : ev_T ev_C n), a = (show ev_T ev_C (n + 1) from ((l, r) : ev_T ev_C n × ev_T ev_C n)) := ⟨(show ev_T ev_C n × ev_T ev_C n from a).1, (show ev_T ev_C n × ev_T ev_C n from a).2, rfl⟩
    obtain ⟨b1, b2, rfl⟩ : ∃ (l r : ev_T ev_C n), b = (show ev_T ev_C (n + 1) from ((l, r) : ev_T ev_C n × ev_T ev_C n)) := ⟨(show ev_T ev_C n × ev_T ev_C n from b).1, (show ev_T ev_C n × ev_T ev_C n from b).2, rfl⟩
    obtain ⟨t1, h1, p1⟩ := ih a1 b1 (fun l => ev_fz n a2 b2 (fun r => k ((l, r) : ev_T ev_C n × ev_T ev_C n))) h
    obtain ⟨t2, h2, p2⟩ := ih a2 b2 (fun r => k ((t1, r) : ev_T ev_C n × ev_T ev_C n)) h1
    refine ⟨((t1, t2) : ev_T ev_C n × ev_T ev_C n), h2, fun i => ?_⟩
    show ev_fzP (Bool.rec (motive := fun _ => ev_C) (ev_tget n a1 (Nat.div i 2) id) (ev_tget n a2 (Nat.div i 2) id) (Nat.beq (Nat.mod i 2) 1)) (Bool.rec (motive := fun _ => ev_C) (ev_tget n b1 (Nat.div i 2) id) (ev_tget n b2 (Nat.div i 2) id) (Nat.beq (Nat.mod i 2) 1)) (Bool.rec (motive := fun _ => ev_C) (ev_tget n t1 (Nat.div i 2) id) (ev_tget n t2 (Nat.div i 2) id) (Nat.beq (Nat.mod i 2) 1))
    cases Nat.beq (Nat.mod i 2) 1
    · exact p1 _
    · exact p2 _
theorem ev_relC.ghost {cA : ev_cA} {f : Nat → va_E} {ads : List Nat} {t : Nat} {l : List ev_V} {e : va_E} (h : ev_relC cA ads t l e) (ht : t < 54) : ev_relC (cA.1, f) ads t l e := by
  rcases h with h | h | h | ⟨h, -⟩
  · exact Or.inl h
  · exact Or.inr (Or.inl h)
  · exact Or.inr (Or.inr (Or.inl h))
  · omega
theorem ev_Met_fz {l : Launch} {M : ev_M} {d ns nc : Nat} {as : List ev_V} {g h h1 : ev_H} {v : ev_V} (hm : ev_Met l M d as ns nc g (v, ns, nc, g)) (pos : Nat → Nat) (hpos : ∀ i, i < nc → 60 ≤ (ev_hg g i).1 → (ev_hg g i).1 < 999 → pos (ev_hg g i).1 = i) (hh : ∀ i, i < nc → ev_fzP (ev_hg g i) (ev_hg h i) (ev_hg h1 i)) : ev_Met l M d as ns nc h (v, ns, nc, h1) := by
  refine ⟨Nat.le_refl _, Nat.le_refl _, fun D cA ads ws vs sz hrel => ?_⟩
  have hM := hm.2.2 D (cA.1, fun t => ((ws[pos t]?).map Prod.snd).getD (.inr (0, []))) ads ws vs sz hrel
  refine MetFree.mono hM (fun a U hp => ?_) (fun _ _ _ _ _ h => h) (fun a U o t hp hq => ?_)
  · obtain ⟨p0, p1, p2, p3, p4⟩ := hp
    refine ⟨p0, p1, ?_, p3, p4⟩
    obtain ⟨w1, w2, w3, w4, w5, w6⟩ := p2
    refine ⟨w1, w2, w3, fun k hk => ?_, w5, w6⟩
    obtain ⟨a, e, q1, q2⟩ := w4 k hk
    refine ⟨a, e, q1, ?_⟩
    rcases hh k hk with ⟨z1, -⟩ | ⟨z1, z2, -⟩ | ⟨z1, z2, z3, -⟩
    · exact Or.inr (Or.inr (Or.inr ⟨by omega, fun _ z => absurd z (by omega)⟩))
    · refine Or.inr (Or.inr (Or.inr ⟨by omega, fun _ _ => ?_⟩))
      show e = ((ws[pos (ev_hg g k).1]?).map Prod.snd).getD (.inr (0, []))
      rw [hpos k hk z1 z2, q1]
      rfl
    · have q3 : ev_relC cA ads (ev_hg g k).1 (ev_hg h k).2 e := by rw [z2]; exact q2
      exact (q3.ghost (by omega)).le z3
  · obtain ⟨⟨⟨ads', ws', w, q1, q2, q3, q4⟩, q5⟩, q6⟩ := hq
    obtain ⟨-, -, p2, -, -⟩ := hp
    refine ⟨⟨⟨ads', ws', w, q1, q2, ?_, q4⟩, q5⟩, q6⟩
    obtain ⟨w1, w2, w3, w4, w5, w6⟩ := q3
    refine ⟨w1, w2, w3, fun k hk => ?_, w5, w6⟩
    obtain ⟨a', e', r1, r2⟩ := w4 k hk
    refine ⟨a', e', r1, ?_⟩
    show ev_relC cA ads' (ev_hg h1 k).1 (ev_hg h1 k).2 e'
    rcases hh k hk with ⟨z1, z⟩ | ⟨z1, z2, z⟩ | ⟨z1, z2, z3, z⟩
    · rw [z]
      exact Or.inr (Or.inr (Or.inr ⟨by omega, fun _ z => absurd z (by omega)⟩))
    · rw [z]
      obtain ⟨a, e, y1, y2⟩ := p2.2.2.2.1 k hk
      have he : e' = e := by
        rcases r2 with ⟨s1, -⟩ | ⟨-, s1, -⟩ | ⟨s1, -⟩ | ⟨-, s2⟩
        · have s1 : (ev_hg g k).1 < 50 := s1
          omega
        · have s1 : (ev_hg g k).1 ≤ 52 := s1
          omega
        · have s1 : (ev_hg g k).1 = 53 := s1
          omega
        · have s3 : e' = ((ws[pos (ev_hg g k).1]?).map Prod.snd).getD (.inr (0, [])) := s2 z1 z2
          rw [hpos k hk z1 z2, y1] at s3
          exact s3
      rw [he]
      exact y2.mono q2
    · rw [z]
      have r3 := ev_relC.ghost (f := cA.2) (cA := (cA.1, fun t => ((ws[pos t]?).map Prod.snd).getD (.inr (0, [])))) r2 (show (ev_hg g k).1 < 54 from z1)
      exact r3
/-- calls, with a contract put in that keeps the marked cells -/
noncomputable def ev_orF (k0 : Nat) (ok : List ev_V → Bool) (NS NC : Nat) (g : ev_H) (v : ev_V) (base : ev_Call) : ev_Call := fun k as ns nc h => Bool.rec (motive := fun _ => ev_R) (base k as ns nc h) (ev_if (ok as) (ev_if (Nat.beq ns NS) (ev_if (Nat.beq nc NC) (ev_fz 8 g h fun h1 => some (v, NS, NC, h1))))) (Nat.beq k k0)
theorem ev_orF_ok {l : Launch} {d k0 : Nat} {ok : List ev_V → Bool} {NS NC : Nat} {g : ev_H} {v : ev_V} {base : ev_Call} (hb : ∀ k M, ev_MT[k]? = some M → ∀ as ns nc h r, base k as ns nc h = some r → ev_Met l M d as ns nc h r) {M0 : ev_M} (h00 : ev_MT[k0]? = some M0) (pos : Nat → Nat) (hpos : ∀ i, i < NC → 60 ≤ (ev_hg g i).1 → (ev_hg g i).1 < 999 → pos (ev_hg g i).1 = i) (hm : ∀ as, ok as = true → ev_Met l M0 d as NS NC g (v, NS, NC, g)) : ∀ k M, ev_MT[k]? = some M → ∀ as ns nc h r, ev_orF k0 ok NS NC g v base k as ns nc h = some r → ev_Met l M d as ns nc h r := by
  intro k M hk as ns nc h r hr
  have hr' : Bool.rec (motive := fun _ => ev_R) (base k as ns nc h) (ev_if (ok as) (ev_if (Nat.beq ns NS) (ev_if (Nat.beq nc NC) (ev_fz 8 g h fun h1 => some (v, NS, NC, h1))))) (Nat.beq k k0) = some r := hr
  cases hz : Nat.beq k k0 with
  | false =>
    rw [hz] at hr'
    exact hb k M hk as ns nc h r hr'
  | true =>
    have hr2 : ev_if (ok as) (ev_if (Nat.beq ns NS) (ev_if (Nat.beq nc NC) (ev_fz 8 g h fun h1 => some (v, NS, NC, h1)))) = some r := by rw [hz] at hr'; exact hr'
    obtain ⟨z1, q1⟩ := ev_if_some hr2
    obtain ⟨z2, q2⟩ := ev_if_some q1
    obtain ⟨z3, q3⟩ := ev_if_some q2
    obtain ⟨h1, z4, z5⟩ := ev_fz_some 8 g h _ q3
    cases z4
    rw [Nat.eq_of_beq_eq_true z2, Nat.eq_of_beq_eq_true z3]
    rw [Nat.eq_of_beq_eq_true hz, h00] at hk
    cases hk
    exact ev_Met_fz (hm as z1) pos hpos (fun i _ => z5 i)
/-! STEPS WITH VARIABLES -/
section EvSteps
variable {l : Launch} {M : ev_M} {d ns nc : Nat} {v' : ev_V} {h' : ev_H} {p : Program} {e : Env} {s : State} {m : MethodId} {args : Array Value} {below : List Frame} {meth : Method} {c : Code} {D : va_G} {cA : ev_cA} {ads : List Nat} {A : Nat → Prop} {Q : State → Prop} {call : ev_Call}
theorem ev_act_step (ha : ev_act l M d ns nc v' h' p e s m args below meth c D cA ads A Q) (hcall : ∀ k M, ev_MT[k]? = some M → ∀ as ns nc h r, call k as ns nc h = some r → ev_Met l M d as ns nc h r) {C : List ev_I} (hC : ev_okL ev_MT M.1.cls (M.1.name == "<init>") M.2.2.2 M.2.1 C) {X : List ev_X} (hX : X = C.map ev_x) {t t' : Nat} {op op' : ev_Op} {rest : List ev_X} (hs : ev_seek X t = (t, op) :: (t', op') :: rest) {al st al' st' : List ev_V} {h h2 : ev_H} (hop : ∀ Kn Kj, op call Kn Kj al st ns nc h = Kn al' st' ns nc h2) (hg : ev_gd p l e (ev_rm (d + 1) 0 0) s m args below meth c Q M.2.2.1 D cA A ads nc ns ((8, 7, 7), ns, nc, h') t' al' st' ns nc h2) : ev_gd p l e (ev_rm (d + 1) 0 0) s m args below meth c Q M.2.2.1 D cA A ads nc ns ((8, 7, 7), ns, nc, h') t al st ns nc h := by
  subst hX
  obtain ⟨E, e1, e2, e3⟩ := ev_seek_ok t C hC
  rw [e1] at hs
  cases E with
  | nil => cases hs
  | cons x r =>
    cases r with
    | nil => cases hs
    | cons y r =>
      obtain ⟨o1, o2, o3, o4⟩ := e2
      have hx : ev_x x = (t, op) := (List.cons.inj hs).1
      have hy : ev_x y = (t', op') := (List.cons.inj (List.cons.inj hs).2).1
      have hpc : x.1 = t := e3 x _ rfl
      have hop1 : op = ev_sem x.1 x.2.1 x.2.2.2.1.1 x.2.2.2.1.2.1 x.2.2.2.1.2.2.1 x.2.2.2.1.2.2.2 := (congrArg Prod.snd hx).symm
      have hpc2 : x.1 + x.2.2.1 = t' := (o3 y r rfl).symm.trans (congrArg Prod.fst hy)
      rw [← hpc]
      refine ev_step_ok (below := below) (l := l) (e := e) (Q := Q) (ads0 := ads) (h1 := h2) en_all (ha.1 (8, 7, 7) h2) ha.2.1 hcall o1 o2 (fun a b i j f => @ite _ (a = al' ∧ b = st' ∧ i = ns ∧ j = nc ∧ f = h2) (Classical.propDecidable _) (some ((8, 7, 7), ns, nc, h2)) none) (fun _ _ _ _ _ _ => none) al st ns nc h ?_ (fun a b i j f hk => ?_) (fun _ _ _ _ _ _ hk => by cases hk)
      · rw [← hop1, hop]
        exact if_pos ⟨rfl, rfl, rfl, rfl, rfl⟩
      · by_cases hq : a = al' ∧ b = st' ∧ i = ns ∧ j = nc ∧ f = h2
        · obtain ⟨rfl, rfl, rfl, rfl, rfl⟩ := hq
          rw [hpc2]
          exact hg
        · rw [if_neg hq] at hk
          cases hk
theorem ev_act_jump (ha : ev_act l M d ns nc v' h' p e s m args below meth c D cA ads A Q) (hcall : ∀ k M, ev_MT[k]? = some M → ∀ as ns nc h r, call k as ns nc h = some r → ev_Met l M d as ns nc h r) {C : List ev_I} (hC : ev_okL ev_MT M.1.cls (M.1.name == "<init>") M.2.2.2 M.2.1 C) {X : List ev_X} (hX : X = C.map ev_x) {t t' : Nat} {op : ev_Op} {rest : List ev_X} (hs : ev_seek X t = (t, op) :: rest) {al st al' st' : List ev_V} {h h2 : ev_H} (hop : ∀ Kn Kj, op call Kn Kj al st ns nc h = Kj t' al' st' ns nc h2) (hg : ev_gd p l e (ev_rm (d + 1) 0 0) s m args below meth c Q M.2.2.1 D cA A ads nc ns ((8, 7, 7), ns, nc, h') t' al' st' ns nc h2) : ev_gd p l e (ev_rm (d + 1) 0 0) s m args below meth c Q M.2.2.1 D cA A ads nc ns ((8, 7, 7), ns, nc, h') t al st ns nc h := by
  subst hX
  obtain ⟨E, e1, e2, e3⟩ := ev_seek_ok t C hC
  rw [e1] at hs
  cases E with
  | nil => cases hs
  | cons x r =>
    obtain ⟨o1, o2, o3, o4⟩ := e2
    have hx : ev_x x = (t, op) := (List.cons.inj hs).1
    have hpc : x.1 = t := e3 x _ rfl
    have hop1 : op = ev_sem x.1 x.2.1 x.2.2.2.1.1 x.2.2.2.1.2.1 x.2.2.2.1.2.2.1 x.2.2.2.1.2.2.2 := (congrArg Prod.snd hx).symm
    rw [← hpc]
    refine ev_step_ok (below := below) (l := l) (e := e) (Q := Q) (ads0 := ads) (h1 := h2) en_all (ha.1 (8, 7, 7) h2) ha.2.1 hcall o1 o2 (fun _ _ _ _ _ => none) (fun t a b i j f => @ite _ (t = t' ∧ a = al' ∧ b = st' ∧ i = ns ∧ j = nc ∧ f = h2) (Classical.propDecidable _) (some ((8, 7, 7), ns, nc, h2)) none) al st ns nc h ?_ (fun _ _ _ _ _ hk => by cases hk) (fun t a b i j f hk => ?_)
    · rw [← hop1, hop]
      exact if_pos ⟨rfl, rfl, rfl, rfl, rfl, rfl⟩
    · by_cases hq : t = t' ∧ a = al' ∧ b = st' ∧ i = ns ∧ j = nc ∧ f = h2
      · obtain ⟨rfl, rfl, rfl, rfl, rfl, rfl⟩ := hq
        exact hg
      · rw [if_neg hq] at hk
        cases hk
/-- stretches by the engine, in the same form -/
theorem ev_act_toG (ha : ev_act l M d ns nc v' h' p e s m args below meth c D cA ads A Q) (hcall : ∀ k M, ev_MT[k]? = some M → ∀ as ns nc h r, call k as ns nc h = some r → ev_Met l M d as ns nc h r) {C : List ev_I} (hC : ev_okL ev_MT M.1.cls (M.1.name == "<init>") M.2.2.2 M.2.1 C) {X : List ev_X} (hX : X = C.map ev_x) (t : Nat) {fuel bp : Nat} {al st al' st' : List ev_V} {h h1 : ev_H} (hrun : ev_runB call X bp al' st' fuel (ev_seek X t) al st ns nc h = some ((8, 7, 7), ns, nc, h1)) (hg : ev_gd p l e (ev_rm (d + 1) 0 0) s m args below meth c Q M.2.2.1 D cA A ads nc ns ((8, 7, 7), ns, nc, h') bp al' st' ns nc h1) : ev_gd p l e (ev_rm (d + 1) 0 0) s m args below meth c Q M.2.2.1 D cA A ads nc ns ((8, 7, 7), ns, nc, h') t al st ns nc h :=
  ⟨Nat.le_refl _, Nat.le_refl _, fun ads2 ws H locs ls vs hp _ _ hwo hS hfr hst => by
    rw [Nat.sub_self, Nat.sub_self]
    refine ev_act_toT ha hcall hC hX t hrun hp hwo hS hfr hst ?_
    intro ads3 ws3 H3 locs3 ls3 vs3 hp3 hwo3 hS3 hfr3 hst3
    have := hg.2.2 ads3 ws3 H3 locs3 ls3 vs3 hp3 (Nat.le_refl _) (Nat.le_refl _) hwo3 hS3 hfr3 hst3
    rw [Nat.sub_self, Nat.sub_self] at this
    exact this⟩
theorem ev_act_endG (ha : ev_act l M d ns nc v' h' p e s m args below meth c D cA ads A Q) (hcall : ∀ k M, ev_MT[k]? = some M → ∀ as ns nc h r, call k as ns nc h = some r → ev_Met l M d as ns nc h r) {C : List ev_I} (hC : ev_okL ev_MT M.1.cls (M.1.name == "<init>") M.2.2.2 M.2.1 C) {X : List ev_X} (hX : X = C.map ev_x) (t : Nat) {fuel : Nat} {al st : List ev_V} {h : ev_H} (hrun : ev_run call X fuel (ev_seek X t) al st ns nc h = some (v', ns, nc, h')) : ev_gd p l e (ev_rm (d + 1) 0 0) s m args below meth c Q M.2.2.1 D cA A ads nc ns ((8, 7, 7), ns, nc, h') t al st ns nc h :=
  ⟨Nat.le_refl _, Nat.le_refl _, fun ads2 ws H locs ls vs hp _ _ hwo hS hfr hst => by
    rw [Nat.sub_self, Nat.sub_self]
    exact ev_act_endT ha hcall hC hX t hrun (fun _ _ z => z) Iff.rfl hp hwo hS hfr hst⟩
end EvSteps
theorem ev_Met_ofG {l : Launch} {M : ev_M} {d ns nc : Nat} {as : List ev_V} {h : ev_H} {v' : ev_V} {h' : ev_H} (hpl : plainName M.1.cls = true) (p1 : as.length ≤ M.2.2.1) (p2 : ∀ v ∈ as, v.1 ≤ 3)
    (body : ∀ (p : Program) (e : Env) (s : State) (m : MethodId) (args : Array Value) (below : List Frame) (meth : Method) (c : Code) (D : va_G) (cA : ev_cA) (ads : List Nat) (A : Nat → Prop) (Q : State → Prop), ev_act l M d ns nc v' h' p e s m args below meth c D cA ads A Q → ev_gd p l e (ev_rm (d + 1) 0 0) s m args below meth c Q M.2.2.1 D cA A ads nc ns ((8, 7, 7), ns, nc, h') 0 (as ++ List.replicate (M.2.2.1 - as.length) (9, 0, 0)) [] ns nc h) : ev_Met l M (d + 1) as ns nc h (v', ns, nc, h') := by
  refine ev_Met_of hpl p1 p2 ?_
  intro p e s m args below meth c D cA ads ws ls A Q ha hwo hS hfr
  have := (body p e s m args below meth c D cA ads A Q ha).2.2 ads ws s.heap [] ls [] ⟨[], by simp⟩ (Nat.le_refl _) (Nat.le_refl _) hwo hS hfr trivial
  rw [Nat.sub_self, Nat.sub_self] at this
  exact this
/-- calls: one contract, told by an equation -/
noncomputable def ev_c1 (k0 : Nat) (as0 : List ev_V) (ns0 nc0 : Nat) (h0 : ev_H) (r0 : ev_V × Nat × Nat × ev_H) (base : ev_Call) : ev_Call := fun k as ns nc h => @ite _ (k = k0 ∧ as = as0 ∧ ns = ns0 ∧ nc = nc0 ∧ h = h0) (Classical.propDecidable _) (some r0) (base k as ns nc h)
theorem ev_c1_at {k0 : Nat} {as0 : List ev_V} {ns0 nc0 : Nat} {h0 : ev_H} {r0 : ev_V × Nat × Nat × ev_H} {base : ev_Call} : ev_c1 k0 as0 ns0 nc0 h0 r0 base k0 as0 ns0 nc0 h0 = some r0 := if_pos ⟨rfl, rfl, rfl, rfl, rfl⟩
theorem ev_c1_ok {l : Launch} {d k0 : Nat} {as0 : List ev_V} {ns0 nc0 : Nat} {h0 : ev_H} {r0 : ev_V × Nat × Nat × ev_H} {base : ev_Call} (hb : ∀ k M, ev_MT[k]? = some M → ∀ as ns nc h r, base k as ns nc h = some r → ev_Met l M d as ns nc h r) (hm : ∀ M, ev_MT[k0]? = some M → ev_Met l M d as0 ns0 nc0 h0 r0) : ∀ k M, ev_MT[k]? = some M → ∀ as ns nc h r, ev_c1 k0 as0 ns0 nc0 h0 r0 base k as ns nc h = some r → ev_Met l M d as ns nc h r := by
  intro k M hk as ns nc h r hr
  unfold ev_c1 at hr
  by_cases hq : k = k0 ∧ as = as0 ∧ ns = ns0 ∧ nc = nc0 ∧ h = h0
  · rw [if_pos hq] at hr
    obtain ⟨rfl, rfl, rfl, rfl, rfl⟩ := hq
    cases hr
    exact hm M hk
  · rw [if_neg hq] at hr
    exact hb k M hk as ns nc h r hr
theorem ev_get_eq {α : Type} : ∀ {l : List α} {n : Nat} {v : α} {k : α → ev_R}, l[n]? = some v → ev_get l n k = k v := by
  intro l
  induction l with
  | nil => intro n v k h; simp at h
  | cons x xs ih =>
    intro n v k h
    cases n with
    | zero => cases h; rfl
    | succ n => exact ih (n := n) h
theorem ev_setK_eq {β : Type} : ∀ {l : List β} {n : Nat} {v : β} {k : List β → ev_R}, n < l.length → ev_setK l n v k = k (l.set n v) := by
  intro l
  induction l with
  | nil => intro n v k h; simp at h
  | cons x xs ih =>
    intro n v k h
    cases n with
    | zero => rfl
    | succ n => exact ih (n := n) (k := fun ys => k (x :: ys)) (by simpa using h)
theorem ev_if_eq {b : Bool} {k : ev_R} (h : b = true) : ev_if b k = k := by rw [h]; rfl
theorem ev_p_eq (v : ev_V) (k : Nat → Nat → Nat → ev_R) : ev_p v k = k v.1 v.2.1 v.2.2 := rfl
theorem ev_cell_eq {nc a b : Nat} {h : ev_H} {k : Nat → Nat → List ev_V → ev_R} (ha : a < nc) : ev_cell nc h (2, a, b) k = k a (ev_hg h a).1 (ev_hg h a).2 := by
  show ev_if (Nat.beq 2 2) (ev_if (Nat.blt a nc) (ev_tget 8 h a fun c => Prod.rec (motive := fun _ => ev_R) (fun tag l => k a tag l) c)) = _
  rw [ev_if_eq (show Nat.beq 2 2 = true from rfl), ev_if_eq (show Nat.blt a nc = true from Nat.ble_eq_true_of_le ha), ev_tget_k]
  rfl
section EvEq
variable {call : ev_Call} {Kn : ev_S} {Kj : Nat → ev_S} {al st r : List ev_V} {ns nc : Nat} {h : ev_H}
theorem eq_iload {i : Nat} {v : ev_V} (hl : al[i]? = some v) (hv : v.1 ≤ 1) : eo_iload i call Kn Kj al st ns nc h = Kn al (v :: st) ns nc h := by
  unfold eo_iload
  rw [ev_get_eq hl, ev_p_eq, ev_if_eq (Nat.ble_eq_true_of_le hv)]
theorem eq_aload {i : Nat} {v : ev_V} (hl : al[i]? = some v) (hv : Nat.beq v.1 2 = true) : eo_aload i call Kn Kj al st ns nc h = Kn al (v :: st) ns nc h := by
  unfold eo_aload
  rw [ev_get_eq hl, ev_p_eq, ev_if_eq hv]
theorem eq_istore {i : Nat} {v : ev_V} (hl : i < al.length) (hv : v.1 ≤ 1) : eo_istore i call Kn Kj al (v :: st) ns nc h = Kn (al.set i v) st ns nc h := by
  unfold eo_istore
  rw [ev_1_cons, ev_p_eq, ev_if_eq (Nat.ble_eq_true_of_le hv), ev_setK_eq hl]
theorem eq_getf {ci k a b : Nat} {v : ev_V} (ha : a < nc) (hh : Nat.beq (ev_hg h a).1 ci = true) (hl : (ev_hg h a).2[k]? = some v) : eo_getf ci k call Kn Kj al ((2, a, b) :: st) ns nc h = Kn al (v :: st) ns nc h := by
  unfold eo_getf
  rw [ev_1_cons, ev_cell_eq ha, ev_if_eq hh, ev_get_eq hl]
theorem eq_pop {v : ev_V} (hv : v.1 ≤ 3) : eo_pop call Kn Kj al (v :: st) ns nc h = Kn al st ns nc h := by
  unfold eo_pop
  rw [ev_1_cons, ev_p_eq, ev_if_eq (Nat.ble_eq_true_of_le hv)]
theorem ev_rng_eu (a : ev_V) (ha : Nat.beq a.1 0 = true) (k : Nat → Nat → ev_R) {z : Nat} (hz : Nat.mod (Nat.add a.2.1 2147483648) 4294967296 = z) : ev_rng a k = k z z := by
  obtain ⟨t, u, b⟩ := a
  have hz : Nat.mod (Nat.add u 2147483648) 4294967296 = z := hz
  unfold ev_rng ev_p
  simp only []
  rw [show Nat.beq t 0 = true from ha]
  simp only [ev_fN_eq]
  rw [hz]
theorem eq_icmp_no {t y z : Nat} {a b : ev_V} (ha : Nat.beq a.1 0 = true) (hb : Nat.beq b.1 0 = true) (hy : Nat.mod (Nat.add a.2.1 2147483648) 4294967296 = y) (hz : Nat.mod (Nat.add b.2.1 2147483648) 4294967296 = z) (hlt : y < z) : eo_icmp .ge t call Kn Kj al (b :: a :: st) ns nc h = Kn al st ns nc h := by
  unfold eo_icmp
  rw [ev_2_cons, ev_rng_eu a ha _ hy, ev_rng_eu b hb _ hz]
  show ev_lt y y z z (Kn al st ns nc h) (Kj t al st ns nc h) = _
  unfold ev_lt
  rw [show Nat.blt y z = true from Nat.ble_eq_true_of_le hlt]
theorem eq_icmp_yes {t y z : Nat} {a b : ev_V} (ha : Nat.beq a.1 0 = true) (hb : Nat.beq b.1 0 = true) (hy : Nat.mod (Nat.add a.2.1 2147483648) 4294967296 = y) (hz : Nat.mod (Nat.add b.2.1 2147483648) 4294967296 = z) (hle : z ≤ y) : eo_icmp .ge t call Kn Kj al (b :: a :: st) ns nc h = Kj t al st ns nc h := by
  unfold eo_icmp
  rw [ev_2_cons, ev_rng_eu a ha _ hy, ev_rng_eu b hb _ hz]
  show ev_lt y y z z (Kn al st ns nc h) (Kj t al st ns nc h) = _
  unfold ev_lt
  have hb : Nat.blt y z = false := by
    cases hq : Nat.blt y z with
    | false => rfl
    | true =>
      have := Nat.le_of_ble_eq_true (show Nat.ble (Nat.succ y) z = true from hq)
      omega
  rw [hb]
  show ev_if (Nat.ble z y) _ = _
  rw [ev_if_eq (Nat.ble_eq_true_of_le hle)]
theorem eq_virt0 {k ci a b : Nat} {v : ev_V} {h2 : ev_H} (hsm : ev_small st = true) (ha : a < nc) (hh : Nat.beq (ev_hg h a).1 ci = true) (hc : call k [(2, a, b)] ns nc h = some (v, ns, nc, h2)) : eo_virt k 0 ci call Kn Kj al ((2, a, b) :: st) ns nc h = ev_back v Kn al st ns nc h2 := by
  have e : eo_virt k 0 ci call Kn Kj al ((2, a, b) :: st) ns nc h = ev_cell nc h (2, a, b) fun _ tag _ => ev_if (Nat.beq tag ci) (ev_if (ev_small st) (ev_ok (call k [(2, a, b)] ns nc h) fun v ns nc h => ev_back v Kn al st ns nc h)) := rfl
  rw [e, ev_cell_eq ha, ev_if_eq hh, ev_if_eq hsm, hc]
  rfl
theorem eq_virt1 {k ci a b : Nat} {v w : ev_V} {h2 : ev_H} (hsm : ev_small st = true) (ha : a < nc) (hh : Nat.beq (ev_hg h a).1 ci = true) (hc : call k [(2, a, b), w] ns nc h = some (v, ns, nc, h2)) : eo_virt k 1 ci call Kn Kj al (w :: (2, a, b) :: st) ns nc h = ev_back v Kn al st ns nc h2 := by
  have e : eo_virt k 1 ci call Kn Kj al (w :: (2, a, b) :: st) ns nc h = ev_cell nc h (2, a, b) fun _ tag _ => ev_if (Nat.beq tag ci) (ev_if (ev_small st) (ev_ok (call k [(2, a, b), w] ns nc h) fun v ns nc h => ev_back v Kn al st ns nc h)) := rfl
  rw [e, ev_cell_eq ha, ev_if_eq hh, ev_if_eq hsm, hc]
  rfl
theorem ev_back_no {v : ev_V} (hv : Nat.beq v.1 9 = true) : ev_back v Kn al st ns nc h = Kn al st ns nc h := by
  unfold ev_back
  rw [ev_p_eq, hv]
theorem ev_back_yes {v : ev_V} (hv : Nat.beq v.1 9 = false) : ev_back v Kn al st ns nc h = Kn al (v :: st) ns nc h := by
  unfold ev_back
  rw [ev_p_eq, hv]
theorem eq_iinc {i n : Nat} {v : ev_V} {w : Nat} (hl : al[i]? = some v) (hv : Nat.beq v.1 0 = true) (hw : ev_u (eb_add (ev_i v.2.1) (ev_i n)) = w) : eo_iinc i n call Kn Kj al st ns nc h = Kn (al.set i (0, w, 0)) st ns nc h := by
  have hlt : i < al.length := (List.getElem?_eq_some_iff.mp hl).1
  obtain ⟨t, u, b⟩ := v
  have hv : t = 0 := Nat.eq_of_beq_eq_true hv
  subst hv
  unfold eo_iinc
  rw [ev_get_eq hl]
  unfold ev_bin
  rw [ev_p_eq, ev_p_eq]
  show ev_fN (ev_u (eb_add (ev_i u) (ev_i n))) (fun w => ev_setK al i (0, w, 0) fun al' => Kn al' st ns nc h) = _
  rw [show ev_u (eb_add (ev_i u) (ev_i n)) = w from hw, ev_fN_eq, ev_setK_eq hlt]
end EvEq
