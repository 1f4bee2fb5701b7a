/-! A RUN TO A BREAKPOINT: at pc bp, with these locals and this stack, it answers with the mark (8, 7, 7) -/
noncomputable def ev_runB (call : ev_Call) (code : List ev_X) (bp : Nat) (al' st' : List ev_V) (n : Nat) : List ev_X → ev_S :=
  Nat.rec (motive := fun _ => List ev_X → ev_S) (fun _ _ _ _ _ _ => none) (fun _ ih cs => List.rec (motive := fun _ => ev_S) (fun _ _ _ _ _ => none) (fun x rest _ => fun al st ns nc h => Bool.rec (motive := fun _ => ev_R) (x.2 call (ih rest) (fun t => ih (ev_seek code t)) al st ns nc h) (ev_if (ev_leq al al') (ev_if (ev_leq st st') (some ((8, 7, 7), ns, nc, h)))) (Nat.beq x.1 bp)) cs) n
/-- the same, with one step ahead of the first look -/
noncomputable def ev_runC (call : ev_Call) (code : List ev_X) (bp : Nat) (al' st' : List ev_V) (n : Nat) (cs : List ev_X) : ev_S :=
  List.rec (motive := fun _ => ev_S) (fun _ _ _ _ _ => none) (fun x rest _ => x.2 call (ev_runB call code bp al' st' n rest) (fun t => ev_runB call code bp al' st' n (ev_seek code t))) cs
theorem ev_rel8 {ads : List Nat} {a b : Nat} {w : Value} (h : ev_rel ads (8, a, b) w) : False := by
  rcases h with ⟨h0, -⟩ | ⟨h0, -⟩ | ⟨h0, -⟩ | ⟨h0, -⟩ | ⟨h0, -⟩ | ⟨h0, -⟩
  · exact absurd (show (8 : Nat) = 0 from h0) (by decide)
  · exact absurd (show (8 : Nat) = 1 from h0) (by decide)
  · exact absurd (show (8 : Nat) = 2 from h0) (by decide)
  · exact absurd (show (8 : Nat) = 3 from h0) (by decide)
  · exact absurd (show (8 : Nat) = 4 from h0) (by decide)
  · exact absurd (show (8 : Nat) = 7 from h0) (by decide)
section EvRunB
variable {p : Program} {l : Launch} {e : Env} {R : Room} {s : State} {m : MethodId} {args : Array Value} {below : List Frame} {meth : Method} {c : Code} {Q : State → Prop}
variable {cc : ByteArray} {own : String} {nL : Nat} {D : va_G} {cA : ev_cA} {A : Nat → Prop} {ads0 : List Nat} {n0 s0 d : Nat} {call : ev_Call} {ns1 nc1 : Nat} {h1 : ev_H}
theorem ev_step_ok {MT : List ev_M} {ini : Bool} {ret : Option FieldType} (hen : en_ok) (hcx : ev_cx p R s m args c cc own nL D cA A d n0 s0 ((8, 7, 7), ns1, nc1, h1)) (hname : ini = true → meth.name = "<init>")
    (hcall : ∀ k M, MT[k]? = some M → ∀ as ns nc h r, call k as ns nc h = some r → ev_Met l M d as ns nc h r) {x : ev_I} (o1 : ev_ok1 MT own ini ret x.1 x.2.1 x.2.2.1 x.2.2.2.1.1 x.2.2.2.1.2.1 x.2.2.2.1.2.2.1 x.2.2.2.1.2.2.2 x.2.2.2.2 = true) (o2 : decode cc x.1 = .ok (x.2.1, x.2.2.1)) : ev_sd p l e R s m args below meth c Q nL D cA A ads0 n0 s0 ((8, 7, 7), ns1, nc1, h1) call (ev_sem x.1 x.2.1 x.2.2.2.1.1 x.2.2.2.1.2.1 x.2.2.2.1.2.2.1 x.2.2.2.1.2.2.2) x.1 x.2.2.1 :=
  ev_sem_ok hen hcx hname hcall (fun _ ads ws H locs ls x _ _ _ _ hr _ => (ev_rel8 hr).elim) (fun _ ads ws H locs ls x _ _ _ _ hr _ _ => (ev_rel8 hr).elim) (fun _ ads ws H locs ls _ _ _ h9 _ => absurd (show (8 : Nat) = 9 from h9) (by decide)) o1 o2
theorem ev_runB_ok {MT : List ev_M} {ini : Bool} {ret : Option FieldType} (hen : en_ok) (hcx : ev_cx p R s m args c cc own nL D cA A d n0 s0 ((8, 7, 7), ns1, nc1, h1)) (hname : ini = true → meth.name = "<init>")
    (hcall : ∀ k M, MT[k]? = some M → ∀ as ns nc h r, call k as ns nc h = some r → ev_Met l M d as ns nc h r) {bp : Nat} {al' st' : List ev_V}
    (hW : ∀ (ads : List Nat) (ws : va_W) (H : Heap) (locs : List Loc) (ls : Array Slot) (vs : List Value), (∃ x, ads = ads0 ++ x) → n0 ≤ nc1 → s0 ≤ ns1 → ev_wo D cA A ads ws nc1 h1 H → va_S A s.heap H locs → ev_fr ads nL al' ls → ev_relS ads st' vs → W p l e R s m args below meth c H locs (nc1 - n0) (ns1 - s0) Q (F0 m bp ls vs))
    (C : List ev_I) (hC : ev_okL MT own ini ret cc C) : ∀ (fuel : Nat) (E : List ev_I), ev_okL MT own ini ret cc E → ∀ (al st : List ev_V) (ns nc : Nat) (h : ev_H), ev_runB call (C.map ev_x) bp al' st' fuel (E.map ev_x) al st ns nc h = some ((8, 7, 7), ns1, nc1, h1) → ∃ x r, E = x :: r ∧ ev_gd p l e R s m args below meth c Q nL D cA A ads0 n0 s0 ((8, 7, 7), ns1, nc1, h1) x.1 al st ns nc h := by
  intro fuel
  induction fuel with
  | zero => intro E hE al st ns nc h hh; exact absurd hh (by simp [ev_runB])
  | succ f ih =>
    intro E hE al st ns nc h hh
    cases E with
    | nil => exact absurd hh (by simp [ev_runB])
    | cons x r =>
      refine ⟨x, r, rfl, ?_⟩
      have hh' : Bool.rec (motive := fun _ => ev_R) ((ev_x x).2 call (ev_runB call (C.map ev_x) bp al' st' f (r.map ev_x)) (fun t => ev_runB call (C.map ev_x) bp al' st' f (ev_seek (C.map ev_x) t)) al st ns nc h) (ev_if (ev_leq al al') (ev_if (ev_leq st st') (some ((8, 7, 7), ns, nc, h)))) (Nat.beq x.1 bp) = some ((8, 7, 7), ns1, nc1, h1) := hh
      cases hz : Nat.beq x.1 bp with
      | true =>
        rw [hz] at hh'
        obtain ⟨z1, hh2⟩ := ev_if_some hh'
        obtain ⟨z2, hh3⟩ := ev_if_some hh2
        have e1 := ev_leq_ok z1
        have e2 := ev_leq_ok z2
        subst e1; subst e2
        cases hh3
        rw [Nat.eq_of_beq_eq_true hz]
        exact ⟨Nat.le_refl _, Nat.le_refl _, hW⟩
      | false =>
        rw [hz] at hh'
        obtain ⟨o1, o2, o3, o4⟩ := hE
        refine ev_step_ok (below := below) (l := l) (e := e) (Q := Q) (ads0 := ads0) hen hcx hname hcall o1 o2 _ _ al st ns nc h hh' ?_ ?_
        · intro al st ns nc h hk
          obtain ⟨y, r', hy, hg⟩ := ih r o4 al st ns nc h hk
          rw [← o3 y r' hy]
          exact hg
        · intro t al st ns nc h hk
          obtain ⟨E', e1, e2, e3⟩ := ev_seek_ok t C hC
          have hk' : ev_runB call (C.map ev_x) bp al' st' f (ev_seek (C.map ev_x) t) al st ns nc h = some ((8, 7, 7), ns1, nc1, h1) := hk
          rw [e1] at hk'
          obtain ⟨y, r', hy, hg⟩ := ih E' e2 al st ns nc h hk'
          rw [← e3 y r' hy]
          exact hg
theorem ev_runC_ok {MT : List ev_M} {ini : Bool} {ret : Option FieldType} (hen : en_ok) (hcx : ev_cx p R s m args c cc own nL D cA A d n0 s0 ((8, 7, 7), ns1, nc1, h1)) (hname : ini = true → meth.name = "<init>")
    (hcall : ∀ k M, MT[k]? = some M → ∀ as ns nc h r, call k as ns nc h = some r → ev_Met l M d as ns nc h r) {bp : Nat} {al' st' : List ev_V}
    (hW : ∀ (ads : List Nat) (ws : va_W) (H : Heap) (locs : List Loc) (ls : Array Slot) (vs : List Value), (∃ x, ads = ads0 ++ x) → n0 ≤ nc1 → s0 ≤ ns1 → ev_wo D cA A ads ws nc1 h1 H → va_S A s.heap H locs → ev_fr ads nL al' ls → ev_relS ads st' vs → W p l e R s m args below meth c H locs (nc1 - n0) (ns1 - s0) Q (F0 m bp ls vs))
    (C : List ev_I) (hC : ev_okL MT own ini ret cc C) (fuel : Nat) (E : List ev_I) (hE : ev_okL MT own ini ret cc E) (al st : List ev_V) (ns nc : Nat) (h : ev_H) (hh : ev_runC call (C.map ev_x) bp al' st' fuel (E.map ev_x) al st ns nc h = some ((8, 7, 7), ns1, nc1, h1)) : ∃ x r, E = x :: r ∧ ev_gd p l e R s m args below meth c Q nL D cA A ads0 n0 s0 ((8, 7, 7), ns1, nc1, h1) x.1 al st ns nc h := by
  cases E with
  | nil => exact absurd hh (by simp [ev_runC])
  | cons x r =>
    refine ⟨x, r, rfl, ?_⟩
    obtain ⟨o1, o2, o3, o4⟩ := hE
    have key := ev_runB_ok (below := below) (l := l) (e := e) (Q := Q) (ads0 := ads0) hen hcx hname hcall hW C hC fuel
    refine ev_step_ok (below := below) (l := l) (e := e) (Q := Q) (ads0 := ads0) hen hcx hname hcall o1 o2 _ _ al st ns nc h hh ?_ ?_
    · intro al st ns nc h hk
      obtain ⟨y, r', hy, hg⟩ := key r o4 al st ns nc h hk
      rw [← o3 y r' hy]
      exact hg
    · intro t al st ns nc h hk
      obtain ⟨E', e1, e2, e3⟩ := ev_seek_ok t C hC
      have hk' : ev_runB call (C.map ev_x) bp al' st' fuel (ev_seek (C.map ev_x) t) al st ns nc h = some ((8, 7, 7), ns1, nc1, h1) := hk
      rw [e1] at hk'
      obtain ⟨y, r', hy, hg⟩ := key E' e2 al st ns nc h hk'
      rw [← e3 y r' hy]
      exact hg
end EvRunB
