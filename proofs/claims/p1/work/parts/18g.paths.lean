/-! LESS KNOWN: a value, a list, a heap that says no more than another -/
noncomputable def ev_vle (g v : ev_V) : Bool :=
  Bool.rec (motive := fun _ => Bool) (ev_veq g v) (Bool.rec (motive := fun _ => Bool) (Nat.beq v.1 1 && (Nat.ble g.2.1 v.2.1 && Nat.ble v.2.2 g.2.2)) (Nat.ble g.2.1 (Nat.mod (Nat.add v.2.1 2147483648) 4294967296) && Nat.ble (Nat.mod (Nat.add v.2.1 2147483648) 4294967296) g.2.2) (Nat.beq v.1 0)) (Nat.beq g.1 1)
theorem ev_vle_cases {g v : ev_V} (h : ev_vle g v = true) : g = v ∨ (g.1 = 1 ∧ ((v.1 = 0 ∧ g.2.1 ≤ (v.2.1 + 2147483648) % 4294967296 ∧ (v.2.1 + 2147483648) % 4294967296 ≤ g.2.2) ∨ (v.1 = 1 ∧ g.2.1 ≤ v.2.1 ∧ v.2.2 ≤ g.2.2))) := by
  unfold ev_vle at h
  cases h1 : Nat.beq g.1 1 with
  | false => rw [h1] at h; exact Or.inl (ev_veq_ok h)
  | true =>
    rw [h1] at h
    refine Or.inr ⟨Nat.eq_of_beq_eq_true h1, ?_⟩
    cases h2 : Nat.beq v.1 0 with
    | true =>
      rw [h2] at h
      have h3 : (Nat.ble g.2.1 (Nat.mod (Nat.add v.2.1 2147483648) 4294967296) && Nat.ble (Nat.mod (Nat.add v.2.1 2147483648) 4294967296) g.2.2) = true := h
      simp only [Bool.and_eq_true] at h3
      exact Or.inl ⟨Nat.eq_of_beq_eq_true h2, Nat.le_of_ble_eq_true h3.1, Nat.le_of_ble_eq_true h3.2⟩
    | false =>
      rw [h2] at h
      have h3 : (Nat.beq v.1 1 && (Nat.ble g.2.1 v.2.1 && Nat.ble v.2.2 g.2.2)) = true := h
      simp only [Bool.and_eq_true] at h3
      exact Or.inr ⟨Nat.eq_of_beq_eq_true h3.1, Nat.le_of_ble_eq_true h3.2.1, Nat.le_of_ble_eq_true h3.2.2⟩
theorem ev_vle_ok {g v : ev_V} (h : ev_vle g v = true) {ads : List Nat} {w : Value} (hr : ev_rel ads v w) : ev_rel ads g w := by
  rcases ev_vle_cases h with rfl | ⟨h1, ⟨h2, h3, h4⟩ | ⟨h2, h3, h4⟩⟩
  · exact hr
  · obtain ⟨x, rfl, hx, -⟩ := ev_rel.int (t := v.1) (a := v.2.1) (b := v.2.2) hr (by omega)
    have hk := ev_key_of v.2.1
    rw [← hx h2] at hk
    exact Or.inr (Or.inl ⟨h1, x, rfl, by omega, by omega⟩)
  · obtain ⟨x, rfl, -, hx⟩ := ev_rel.int (t := v.1) (a := v.2.1) (b := v.2.2) hr (by omega)
    have := hx h2
    exact Or.inr (Or.inl ⟨h1, x, rfl, by omega, by omega⟩)
theorem ev_vle_tag {g v : ev_V} (h : ev_vle g v = true) (hg : g.1 ≤ 3) : v.1 ≤ 3 := by
  rcases ev_vle_cases h with rfl | ⟨h1, ⟨h2, -⟩ | ⟨h2, -⟩⟩
  · exact hg
  · omega
  · omega
noncomputable def ev_lle (le : ev_V → ev_V → Bool) (a : List ev_V) : List ev_V → Bool :=
  List.rec (motive := fun _ => List ev_V → Bool) (fun b => List.rec (motive := fun _ => Bool) true (fun _ _ _ => false) b) (fun x _ ih b => List.rec (motive := fun _ => Bool) false (fun y ys _ => Bool.rec (motive := fun _ => Bool) false (ih ys) (le x y)) b) a
theorem ev_lle_ok {le : ev_V → ev_V → Bool} : ∀ {a b : List ev_V}, ev_lle le a b = true → a.length = b.length ∧ ∀ (j : Nat) (v : ev_V), a[j]? = some v → ∃ v', b[j]? = some v' ∧ le v v' = true := by
  intro a
  induction a with
  | nil =>
    intro b h
    cases b with
    | nil => exact ⟨rfl, fun j v hj => by simp at hj⟩
    | cons y ys => exact absurd h (by simp [ev_lle])
  | cons x xs ih =>
    intro b h
    cases b with
    | nil => exact absurd h (by simp [ev_lle])
    | cons y ys =>
      have h' : Bool.rec (motive := fun _ => Bool) false (ev_lle le xs ys) (le x y) = true := h
      cases hv : le x y with
      | false => rw [hv] at h'; exact absurd h' (by simp)
      | true =>
        rw [hv] at h'
        obtain ⟨h1, h2⟩ := ih h'
        refine ⟨by simp [h1], fun j v hj => ?_⟩
        cases j with
        | zero => cases hj; exact ⟨y, rfl, hv⟩
        | succ j => exact h2 j v hj
theorem ev_relS.le {ads : List Nat} : ∀ {a b : List ev_V} {vs : List Value}, ev_lle ev_vle a b = true → ev_relS ads b vs → ev_relS ads a vs := by
  intro a
  induction a with
  | nil =>
    intro b vs h hr
    cases b with
    | nil => exact hr
    | cons y ys => exact absurd h (by simp [ev_lle])
  | cons x xs ih =>
    intro b vs h hr
    cases b with
    | nil => exact absurd h (by simp [ev_lle])
    | cons y ys =>
      have h' : Bool.rec (motive := fun _ => Bool) false (ev_lle ev_vle xs ys) (ev_vle x y) = true := h
      obtain ⟨w, ws, rfl, q1, q2⟩ := hr.cons
      cases hv : ev_vle x y with
      | false => rw [hv] at h'; exact absurd h' (by simp)
      | true =>
        rw [hv] at h'
        exact ⟨ev_vle_ok hv q1, ih h' q2⟩
noncomputable def ev_vl7 (g v : ev_V) : Bool := Bool.rec (motive := fun _ => Bool) (ev_vle g v) true (Nat.beq g.1 7)
theorem ev_vl7_ok {g v : ev_V} (h : ev_vl7 g v = true) {ads : List Nat} {w : Value} (hr : ev_rel ads v w) : ev_rel ads g w := by
  unfold ev_vl7 at h
  cases h1 : Nat.beq g.1 7 with
  | false => rw [h1] at h; exact ev_vle_ok h hr
  | true => exact Or.inr (Or.inr (Or.inr (Or.inr (Or.inr ⟨Nat.eq_of_beq_eq_true h1, trivial⟩))))
noncomputable def ev_hle (n : Nat) : ev_T ev_C n → ev_T ev_C n → Bool :=
  Nat.rec (motive := fun n => ev_T ev_C n → ev_T ev_C n → Bool) (fun a b => Bool.rec (motive := fun _ => Bool) (Nat.beq (show ev_C from a).1 (show ev_C from b).1 && ev_lle ev_vl7 (show ev_C from a).2 (show ev_C from b).2) true (Nat.ble 999 (show ev_C from a).1)) (fun n ih a b => Prod.rec (motive := fun _ => Bool) (fun (a1 : ev_T ev_C n) (a2 : ev_T ev_C n) => Prod.rec (motive := fun _ => Bool) (fun (b1 : ev_T ev_C n) (b2 : ev_T ev_C n) => Bool.rec (motive := fun _ => Bool) false (ih a2 b2) (ih a1 b1)) (b : ev_T ev_C n × ev_T ev_C n)) (a : ev_T ev_C n × ev_T ev_C n)) n
theorem ev_hle_ok : ∀ (n : Nat) (a b : ev_T ev_C n), ev_hle n a b = true → ∀ k, 999 ≤ (ev_tget n a k id).1 ∨ ((ev_tget n a k id).1 = (ev_tget n b k id).1 ∧ ev_lle ev_vl7 (ev_tget n a k id).2 (ev_tget n b k id).2 = true) := by
  intro n
  induction n with
  | zero =>
    intro a b h k
    have h' : Bool.rec (motive := fun _ => Bool) (Nat.beq (show ev_C from a).1 (show ev_C from b).1 && ev_lle ev_vl7 (show ev_C from a).2 (show ev_C from b).2) true (Nat.ble 999 (show ev_C from a).1) = true := h
    cases hz : Nat.ble 999 (show ev_C from a).1 with
    | true => exact Or.inl (Nat.le_of_ble_eq_true hz)
    | false =>
      rw [hz] at h'
      have h2 : (Nat.beq (show ev_C from a).1 (show ev_C from b).1 && ev_lle ev_vl7 (show ev_C from a).2 (show ev_C from b).2) = true := h'
      simp only [Bool.and_eq_true] at h2
      exact Or.inr ⟨Nat.eq_of_beq_eq_true h2.1, h2.2⟩
  | succ n ih =>
    intro a b h k
    obtain ⟨a1, a2, rfl⟩ : ∃ (l r : ev_T ev_C n), a = (show ev_T ev_C (n + 1) from ((l, r) : ev_T ev_C n × ev_T ev_C n)) := ⟨(show ev_T ev_C n × ev_T ev_C n from a).1, (show ev_T ev_C n × ev_T ev_C n from a).2, rfl⟩
    obtain ⟨b1, b2, rfl⟩ : ∃ (l r : ev_T ev_C n), b = (show ev_T ev_C (n + 1) from ((l, r) : ev_T ev_C n × ev_T ev_C n)) := ⟨(show ev_T ev_C n × ev_T ev_C n from b).1, (show ev_T ev_C n × ev_T ev_C n from b).2, rfl⟩
    have h' : Bool.rec (motive := fun _ => Bool) false (ev_hle n a2 b2) (ev_hle n a1 b1) = true := h
    cases h1 : ev_hle n a1 b1 with
    | false => rw [h1] at h'; exact absurd h' (by simp)
    | true =>
      rw [h1] at h'
      have g1 := ih a1 b1 h1 (Nat.div k 2)
      have g2 := ih a2 b2 h' (Nat.div k 2)
      show 999 ≤ (Bool.rec (motive := fun _ => ev_C) (ev_tget n a1 (Nat.div k 2) id) (ev_tget n a2 (Nat.div k 2) id) (Nat.beq (Nat.mod k 2) 1) : ev_C).1 ∨ ((Bool.rec (motive := fun _ => ev_C) (ev_tget n a1 (Nat.div k 2) id) (ev_tget n a2 (Nat.div k 2) id) (Nat.beq (Nat.mod k 2) 1) : ev_C).1 = (Bool.rec (motive := fun _ => ev_C) (ev_tget n b1 (Nat.div k 2) id) (ev_tget n b2 (Nat.div k 2) id) (Nat.beq (Nat.mod k 2) 1) : ev_C).1 ∧ ev_lle ev_vl7 (Bool.rec (motive := fun _ => ev_C) (ev_tget n a1 (Nat.div k 2) id) (ev_tget n a2 (Nat.div k 2) id) (Nat.beq (Nat.mod k 2) 1) : ev_C).2 (Bool.rec (motive := fun _ => ev_C) (ev_tget n b1 (Nat.div k 2) id) (ev_tget n b2 (Nat.div k 2) id) (Nat.beq (Nat.mod k 2) 1) : ev_C).2 = true)
      cases Nat.beq (Nat.mod k 2) 1
      · exact g1
      · exact g2
theorem ev_relC.le {cA : ev_cA} {ads : List Nat} {t : Nat} {l g : List ev_V} {e : va_E} (h : ev_relC cA ads t l e) (hg : ev_lle ev_vl7 g l = true) : ev_relC cA ads t g e := by
  obtain ⟨hl, hv⟩ := ev_lle_ok hg
  rcases h with ⟨h0, vs, h1, h2, h3⟩ | ⟨h0, h1, f, h2, h3⟩ | ⟨h0, f, h1⟩ | h
  · refine Or.inl ⟨h0, vs, h1, h2.trans hl.symm, fun j v hj => ?_⟩
    obtain ⟨v', q1, q2⟩ := hv j v hj
    obtain ⟨w, q3, q4⟩ := h3 j v' q1
    exact ⟨w, q3, ev_vl7_ok q2 q4⟩
  · refine Or.inr (Or.inl ⟨h0, h1, f, by rw [hl]; exact h2, fun j v hj => ?_⟩)
    obtain ⟨v', q1, q2⟩ := hv j v hj
    exact ev_vl7_ok q2 (h3 j v' q1)
  · exact Or.inr (Or.inr (Or.inl ⟨h0, f, by rw [hl]; exact h1⟩))
  · exact Or.inr (Or.inr (Or.inr h))
theorem ev_wo.le {D : va_G} {cA : ev_cA} {A : Nat → Prop} {ads : List Nat} {ws : va_W} {nc : Nat} {g h : ev_H} {H : Heap} (hw : ev_wo D cA A ads ws nc h H) (hg : ev_hle 8 g h = true) : ev_wo D cA A ads ws nc g H := by
  obtain ⟨h1, h2, h3, h4, h5, h6⟩ := hw
  refine ⟨h1, h2, h3, fun k hk => ?_, h5, h6⟩
  obtain ⟨a, e, q1, q2⟩ := h4 k hk
  refine ⟨a, e, q1, ?_⟩
  have hz : 999 ≤ (ev_hg g k).1 ∨ ((ev_hg g k).1 = (ev_hg h k).1 ∧ ev_lle ev_vl7 (ev_hg g k).2 (ev_hg h k).2 = true) := ev_hle_ok 8 g h hg k
  rcases hz with hz | ⟨z1, z2⟩
  · exact Or.inr (Or.inr (Or.inr ⟨by omega, fun _ z => absurd z (by omega)⟩))
  · rw [z1]; exact q2.le z2
noncomputable def ev_vl9 (g v : ev_V) : Bool := Bool.rec (motive := fun _ => Bool) (ev_vle g v) true (Nat.beq g.1 9)
theorem ev_fr.le {ads : List Nat} {nL : Nat} {al al' : List ev_V} {ls : Array Slot} (h : ev_fr ads nL al ls) (hl : ev_lle ev_vl9 al' al = true) : ev_fr ads nL al' ls := by
  obtain ⟨h1, lv, h2, h3⟩ := h
  obtain ⟨e1, e2⟩ := ev_lle_ok hl
  refine ⟨e1.trans h1, lv, h2, fun i v hi hv => ?_⟩
  obtain ⟨v', q1, q2⟩ := e2 i v hi
  have q3 : ev_vle v v' = true := by
    unfold ev_vl9 at q2
    rw [show Nat.beq v.1 9 = false from by cases hz : Nat.beq v.1 9 with | false => rfl | true => exact absurd (Nat.eq_of_beq_eq_true hz) (by omega)] at q2
    exact q2
  obtain ⟨w, q4, q5⟩ := h3 i v' q1 (ev_vle_tag q3 hv)
  exact ⟨w, q4, ev_vle_ok q3 q5⟩
theorem ev_Met.le {l : Launch} {M : ev_M} {d ns nc : Nat} {as as' : List ev_V} {h h' : ev_H} {r : ev_V × Nat × Nat × ev_H} (hm : ev_Met l M d as' ns nc h' r) (ha : ev_lle ev_vle as' as = true) (hh : ev_hle 8 h' h = true) : ev_Met l M d as ns nc h r :=
  ⟨hm.1, hm.2.1, fun D cA ads ws vs sz hrel => MetFree.mono (hm.2.2 D cA ads ws vs sz (hrel.le ha)) (fun a U hp => ⟨hp.1, hp.2.1, hp.2.2.1.le hh, hp.2.2.2⟩) (fun _ _ _ _ _ h => h) (fun _ _ _ _ _ h => h)⟩
theorem ev_ret.le {ads : List Nat} {v v' : ev_V} {w : Option Value} (h : ev_ret ads v w) (hv : ev_vle v' v = true) : ev_ret ads v' w := by
  rcases h with ⟨h0, h1⟩ | ⟨h0, x, h1, h2⟩
  · rcases ev_vle_cases hv with rfl | ⟨z1, ⟨z2, -⟩ | ⟨z2, -⟩⟩
    · exact Or.inl ⟨h0, h1⟩
    · omega
    · omega
  · refine Or.inr ⟨?_, x, h1, ev_vle_ok hv h2⟩
    rcases ev_vle_cases hv with rfl | ⟨z1, -⟩
    · exact h0
    · omega
theorem ev_Met.to {l : Launch} {M : ev_M} {d ns nc : Nat} {as : List ev_V} {h h1 h2 : ev_H} {v v' : ev_V} {ns1 nc1 : Nat} (hm : ev_Met l M d as ns nc h (v, ns1, nc1, h1)) (hv : ev_vle v' v = true) (hh : ev_hle 8 h2 h1 = true) : ev_Met l M d as ns nc h (v', ns1, nc1, h2) := by
  refine ⟨hm.1, hm.2.1, fun D cA ads ws vs sz hrel => MetFree.mono (hm.2.2 D cA ads ws vs sz hrel) (fun _ _ h => h) (fun _ _ _ _ _ h => h) (fun a U o t _ hq => ⟨?_, hq.2⟩)⟩
  obtain ⟨⟨ads', ws', w, q1, q2, q3, q4⟩, q5⟩ := hq.1
  exact ⟨⟨ads', ws', w, q1, q2, q3.le hh, q4.le hv⟩, q5⟩
/-! ALL PATHS: where a branch is not decided both ways are gone; a narrow interval on the top of the stack is split -/
noncomputable def ev_mk (NS NC : Nat) (q : ev_V × Nat × Nat × ev_H) : Bool := ev_veq q.1 (8, 7, 7) && (Nat.beq q.2.1 NS && Nat.beq q.2.2.1 NC)
theorem ev_mk_ok {NS NC : Nat} {q : ev_V × Nat × Nat × ev_H} (h : ev_mk NS NC q = true) : q = ((8, 7, 7), NS, NC, q.2.2.2) := by
  simp only [ev_mk, Bool.and_eq_true] at h
  obtain ⟨h1, h2, h3⟩ := h
  obtain ⟨a, b, c, g⟩ := q
  rw [show a = (8, 7, 7) from ev_veq_ok h1, show b = NS from Nat.eq_of_beq_eq_true h2, show c = NC from Nat.eq_of_beq_eq_true h3]
noncomputable def ev_okR (NS NC : Nat) (r : ev_R) : Bool := Option.rec (motive := fun _ => Bool) false (fun q => ev_mk NS NC q) r
theorem ev_okR_ok {NS NC : Nat} {r : ev_R} (h : ev_okR NS NC r = true) : ∃ g, r = some ((8, 7, 7), NS, NC, g) := by
  cases r with
  | none => exact absurd h (by simp [ev_okR])
  | some q => exact ⟨q.2.2.2, congrArg some (ev_mk_ok h)⟩
noncomputable def ev_both (NS NC : Nat) (a b : ev_R) : ev_R := Option.rec (motive := fun _ => ev_R) none (fun q => ev_if (ev_mk NS NC q) b) a
theorem ev_both_some {NS NC : Nat} {a b : ev_R} {r} (h : ev_both NS NC a b = some r) : (∃ g, a = some ((8, 7, 7), NS, NC, g)) ∧ b = some r := by
  cases a with
  | none => exact absurd h (by simp [ev_both])
  | some q =>
    obtain ⟨h1, h2⟩ := ev_if_some (show ev_if (ev_mk NS NC q) b = some r from h)
    exact ⟨⟨q.2.2.2, congrArg some (ev_mk_ok h1)⟩, h2⟩
noncomputable def ev_all (NS NC n : Nat) (k : Nat → ev_R) : ev_R := Nat.rec (motive := fun _ => ev_R) (k 0) (fun m ih => ev_both NS NC (k (Nat.succ m)) ih) n
theorem ev_all_some {NS NC : Nat} {k : Nat → ev_R} : ∀ {n : Nat} {g : ev_H}, ev_all NS NC n k = some ((8, 7, 7), NS, NC, g) → ∀ j, j ≤ n → ∃ g', k j = some ((8, 7, 7), NS, NC, g') := by
  intro n
  induction n with
  | zero => intro g h j hj; exact ⟨g, by rw [show j = 0 by omega]; exact h⟩
  | succ n ih =>
    intro g h j hj
    obtain ⟨⟨g1, h1⟩, h2⟩ := ev_both_some (show ev_both NS NC (k (Nat.succ n)) (ev_all NS NC n k) = some _ from h)
    by_cases hz : j = n + 1
    · exact ⟨g1, by rw [hz]; exact h1⟩
    · exact ih h2 j (by omega)
noncomputable def ev_spl (NS NC : Nat) (st : List ev_V) (k : List ev_V → ev_R) : ev_R :=
  List.rec (motive := fun _ => ev_R) (k []) (fun v r _ => ev_p v fun t lo hi => Bool.rec (motive := fun _ => ev_R) (k (v :: r)) (Bool.rec (motive := fun _ => ev_R) (k (v :: r)) (ev_all NS NC (Nat.sub hi lo) fun j => ev_fN (Nat.mod (Nat.add (Nat.add lo j) 2147483648) 4294967296) fun u => k ((0, u, 0) :: r)) (Nat.ble (Nat.sub hi lo) 40)) (Nat.beq t 1)) st
noncomputable def ev_lo (a : ev_V) : Nat := Bool.rec (motive := fun _ => Nat) a.2.1 (Nat.mod (Nat.add a.2.1 2147483648) 4294967296) (Nat.beq a.1 0)
noncomputable def ev_hi (a : ev_V) : Nat := Bool.rec (motive := fun _ => Nat) a.2.2 (Nat.mod (Nat.add a.2.1 2147483648) 4294967296) (Nat.beq a.1 0)
/-- is a comparison decided -/
noncomputable def ev_dc (c : ClassFile.Cond) (a b : ev_V) : Bool := match c with
  | .eq => Nat.blt (ev_hi a) (ev_lo b) || (Nat.blt (ev_hi b) (ev_lo a) || (Nat.beq (ev_lo a) (ev_hi a) && Nat.beq (ev_lo b) (ev_hi b)))
  | .ne => Nat.blt (ev_hi a) (ev_lo b) || (Nat.blt (ev_hi b) (ev_lo a) || (Nat.beq (ev_lo a) (ev_hi a) && Nat.beq (ev_lo b) (ev_hi b)))
  | .lt => Nat.blt (ev_hi a) (ev_lo b) || Nat.ble (ev_hi b) (ev_lo a)
  | .ge => Nat.blt (ev_hi a) (ev_lo b) || Nat.ble (ev_hi b) (ev_lo a)
  | .gt => Nat.blt (ev_hi b) (ev_lo a) || Nat.ble (ev_hi a) (ev_lo b)
  | .le => Nat.blt (ev_hi b) (ev_lo a) || Nat.ble (ev_hi a) (ev_lo b)
abbrev ev_F : Type := ev_V → Nat → Nat → ev_H → ev_R
abbrev ev_Y : Type := Nat × (Nat → Nat → ev_F → ev_Op)
noncomputable def ey_p (op : ev_Op) : Nat → Nat → ev_F → ev_Op := fun NS NC _ call Kn Kj al st ns nc h => op call (fun al st ns nc h => ev_spl NS NC st fun st' => Kn al st' ns nc h) Kj al st ns nc h
noncomputable def ey_c (c : ClassFile.Cond) (t : Nat) : Nat → Nat → ev_F → ev_Op := fun NS NC _ call Kn Kj al st ns nc h => ev_1 st fun a r => Bool.rec (motive := fun _ => ev_R) (ev_if (Nat.ble a.1 1) (ev_both NS NC (Kj t al r ns nc h) (Kn al r ns nc h))) (eo_ifc c t call Kn Kj al st ns nc h) (ev_dc c a (0, 0, 0))
noncomputable def ey_i (c : ClassFile.Cond) (t : Nat) : Nat → Nat → ev_F → ev_Op := fun NS NC _ call Kn Kj al st ns nc h => ev_2 st fun b a r => Bool.rec (motive := fun _ => ev_R) (ev_if (Nat.ble a.1 1) (ev_if (Nat.ble b.1 1) (ev_both NS NC (Kj t al r ns nc h) (Kn al r ns nc h)))) (eo_icmp c t call Kn Kj al st ns nc h) (ev_dc c a b)
noncomputable def ey_r (kd : Nat) : Nat → Nat → ev_F → ev_Op := fun _ _ F _ _ _ _ st ns nc h => ev_1 st fun v r => ev_p v fun t x y => ev_if (ev_kind kd t x y) (ev_0 r (F v ns nc h))
noncomputable def ey_v : Nat → Nat → ev_F → ev_Op := fun _ _ F _ _ _ _ st ns nc h => ev_0 st (F (9, 0, 0) ns nc h)
noncomputable def ev_same (n : Nat) (v : ev_V) : List ev_V → ev_R → ev_R := Nat.rec (motive := fun _ => List ev_V → ev_R → ev_R) (fun _ k => k) (fun _ ih l k => ev_1 l fun x r => ev_if (ev_veq x v) (ih r k)) n
theorem ev_same_some {v : ev_V} : ∀ {n : Nat} {l : List ev_V} {k : ev_R} {r}, ev_same n v l k = some r → (∀ j, j < n → l[j]? = some v) ∧ k = some r := by
  intro n
  induction n with
  | zero => intro l k r h; exact ⟨fun j hj => by omega, h⟩
  | succ n ih =>
    intro l k r h
    obtain ⟨x, q, rfl, h1⟩ := ev_1_some (show ev_1 l (fun x r => ev_if (ev_veq x v) (ev_same n v r k)) = some r from h)
    obtain ⟨z, h2⟩ := ev_if_some h1
    obtain ⟨g1, g2⟩ := ih h2
    refine ⟨fun j hj => ?_, g2⟩
    cases j with
    | zero => rw [ev_veq_ok z]; rfl
    | succ j => exact g1 j (by omega)
theorem ev_drop_at : ∀ {n : Nat} {f : List ev_V} {k : List ev_V → ev_R} {r}, ev_drop n f k = some r → ∃ f', k f' = some r ∧ ∀ j, f[n + j]? = f'[j]? := by
  intro n
  induction n with
  | zero => intro f k r h; exact ⟨f, h, fun j => by rw [Nat.zero_add]⟩
  | succ n ih =>
    intro f k r h
    obtain ⟨x, q, rfl, h1⟩ := ev_1_some (show ev_1 f (fun _ f' => ev_drop n f' k) = some r from h)
    obtain ⟨f', g1, g2⟩ := ih h1
    exact ⟨f', g1, fun j => by rw [show n + 1 + j = (n + j) + 1 by omega, List.getElem?_cons_succ]; exact g2 j⟩
/-- a load at an index within an interval: what lies there must be the same everywhere -/
noncomputable def ey_a (lo hi : Nat) : Nat → Nat → ev_F → ev_Op := fun NS NC F call Kn Kj al st ns nc h => ev_2 st fun i o r => Bool.rec (motive := fun _ => ev_R) (ey_p (eo_ald lo hi) NS NC F call Kn Kj al st ns nc h) (ev_if (Nat.ble 2147483648 i.2.1) (ev_if (Nat.blt i.2.2 2147549184) (ev_cell nc h o fun _ tag l => ev_if (Nat.ble lo tag) (ev_if (Nat.ble tag hi) (ev_drop (Nat.sub i.2.1 2147483648) l fun l' => ev_1 l' fun v _ => ev_same (Nat.succ (Nat.sub i.2.2 i.2.1)) v l' (ev_spl NS NC (v :: r) fun st' => Kn al st' ns nc h)))))) (Nat.beq i.1 1)
theorem ev_get_at {α : Type} : ∀ {l : List α} {n : Nat} {v : α} {k : α → ev_R}, l[n]? = some v → ev_get l n k = k v := by
  intro l
  induction l with
  | nil => intro n v k h; simp at h
  | cons x xs ih =>
    intro n v k h
    cases n with
    | zero => cases h; rfl
    | succ n => exact ih (n := n) h
noncomputable def ev_y (x : ev_I) : ev_Y := (x.1, match x.2.1 with
  | .ifCond c _ => ey_c c x.2.2.2.1.1
  | .if_icmp c _ => ey_i c x.2.2.2.1.1
  | .ireturn => ey_r x.2.2.2.1.1
  | .return_ => ey_v
  | .iaload => ey_a 50 50
  | .baload => ey_a 51 52
  | ins => ey_p (ev_sem x.1 ins x.2.2.2.1.1 x.2.2.2.1.2.1 x.2.2.2.1.2.2.1 x.2.2.2.1.2.2.2))
noncomputable def ev_seekY (l : List ev_Y) (t : Nat) : List ev_Y :=
  List.rec (motive := fun _ => List ev_Y) [] (fun x xs ih => Bool.rec (motive := fun _ => List ev_Y) ih (x :: xs) (Nat.beq x.1 t)) l
theorem ev_seekY_ok {MT : List ev_M} {own : String} {ini : Bool} {ret : Option FieldType} {cc : ByteArray} (t : Nat) : ∀ C : List ev_I, ev_okL MT own ini ret cc C → ∃ E, ev_seekY (C.map ev_y) t = E.map ev_y ∧ ev_okL MT own ini ret cc E ∧ ∀ x r, E = x :: r → x.1 = t := by
  intro C
  induction C with
  | nil => intro _; exact ⟨[], rfl, trivial, fun _ _ h => by cases h⟩
  | cons x r ih =>
    intro h
    have hs : ev_seekY ((x :: r).map ev_y) t = Bool.rec (motive := fun _ => List ev_Y) (ev_seekY (r.map ev_y) t) ((x :: r).map ev_y) (Nat.beq x.1 t) := rfl
    by_cases hz : Nat.beq x.1 t = true
    · rw [hs, hz]
      exact ⟨x :: r, rfl, h, fun y r' hy => by cases hy; exact Nat.eq_of_beq_eq_true hz⟩
    · rw [hs, Bool.eq_false_iff.mpr hz]
      exact ih h.2.2.2
noncomputable def ev_fin (v' : ev_V) (h' : ev_H) : ev_F := fun v ns nc h => ev_if (ev_vle v' v) (ev_if (ev_hle 8 h' h) (some ((8, 7, 7), ns, nc, h)))
abbrev ev_Cu : Type := List ev_V × ev_H
noncomputable def ev_anyC (cuts : List ev_Cu) (al : List ev_V) (h : ev_H) : Bool := List.rec (motive := fun _ => Bool) false (fun c _ ih => Bool.rec (motive := fun _ => Bool) ih (Bool.rec (motive := fun _ => Bool) ih true (ev_hle 8 c.2 h)) (ev_lle ev_vl9 c.1 al)) cuts
theorem ev_anyC_ok {al : List ev_V} {h : ev_H} : ∀ {cuts : List ev_Cu}, ev_anyC cuts al h = true → ∃ c ∈ cuts, ev_lle ev_vl9 c.1 al = true ∧ ev_hle 8 c.2 h = true := by
  intro cuts
  induction cuts with
  | nil => intro h; exact absurd h (by simp [ev_anyC])
  | cons c r ih =>
    intro hh
    have h' : Bool.rec (motive := fun _ => Bool) (ev_anyC r al h) (Bool.rec (motive := fun _ => Bool) (ev_anyC r al h) true (ev_hle 8 c.2 h)) (ev_lle ev_vl9 c.1 al) = true := hh
    have key : ev_anyC r al h = true → ∃ c' ∈ c :: r, ev_lle ev_vl9 c'.1 al = true ∧ ev_hle 8 c'.2 h = true := fun z => by
      obtain ⟨c', q1, q2⟩ := ih z
      exact ⟨c', List.mem_cons_of_mem _ q1, q2⟩
    cases h1 : ev_lle ev_vl9 c.1 al with
    | false => rw [h1] at h'; exact key h'
    | true =>
      rw [h1] at h'
      cases h2 : ev_hle 8 c.2 h with
      | false => rw [h2] at h'; exact key h'
      | true => exact ⟨c, List.mem_cons_self, h1, h2⟩
noncomputable def ev_cut1 (cuts : List ev_Cu) : ev_S := fun al st ns nc h => ev_0 st (ev_if (ev_anyC cuts al h) (some ((8, 7, 7), ns, nc, h)))
noncomputable def ev_runN (NS NC : Nat) (F : ev_F) (call : ev_Call) (code : List ev_Y) (bp : Nat) (cut : ev_S) (n : Nat) : List ev_Y → ev_S :=
  Nat.rec (motive := fun _ => List ev_Y → ev_S) (fun _ _ _ _ _ _ => none) (fun _ ih cs => List.rec (motive := fun _ => ev_S) (fun _ _ _ _ _ => none) (fun x rest _ => fun al st ns nc h => Bool.rec (motive := fun _ => ev_R) (x.2 NS NC F call (ih rest) (fun t => ih (ev_seekY code t)) al st ns nc h) (cut al st ns nc h) (Nat.beq x.1 bp)) cs) n
/-- the same, with one step ahead of the first look -/
noncomputable def ev_runM (NS NC : Nat) (F : ev_F) (call : ev_Call) (code : List ev_Y) (bp : Nat) (cut : ev_S) (n : Nat) (cs : List ev_Y) : ev_S :=
  List.rec (motive := fun _ => ev_S) (fun _ _ _ _ _ => none) (fun x rest _ => x.2 NS NC F call (ev_runN NS NC F call code bp cut n rest) (fun t => ev_runN NS NC F call code bp cut n (ev_seekY code t))) cs
theorem ev_lt_ex (z y : Nat) (Y N : ev_R) : ev_lt z z y y Y N = Y ∨ ev_lt z z y y Y N = N := by
  unfold ev_lt
  cases hb : Nat.blt z y with
  | true => exact Or.inl rfl
  | false =>
    have hz : Nat.ble y z = true := by
      apply Nat.ble_eq_true_of_le
      have hn : ¬ Nat.blt z y = true := by rw [hb]; decide
      by_cases hq : y ≤ z
      · exact hq
      · exact absurd (show Nat.blt z y = true from Nat.ble_eq_true_of_le (by omega)) hn
    rw [hz]
    exact Or.inr rfl
theorem ev_eq_ex (z y : Nat) (Y N : ev_R) : ev_eq z z y y Y N = Y ∨ ev_eq z z y y Y N = N := by
  unfold ev_eq
  cases hb : Nat.blt z y with
  | true => exact Or.inr rfl
  | false =>
    cases hc : Nat.blt y z with
    | true => exact Or.inr rfl
    | false =>
      have e1 : z = y := by
        have h1 : ¬ Nat.blt z y = true := by rw [hb]; decide
        have h2 : ¬ Nat.blt y z = true := by rw [hc]; decide
        by_cases hq : z < y
        · exact absurd (show Nat.blt z y = true from Nat.ble_eq_true_of_le (by omega)) h1
        · by_cases hq2 : y < z
          · exact absurd (show Nat.blt y z = true from Nat.ble_eq_true_of_le (by omega)) h2
          · omega
      subst e1
      have e2 : Nat.beq z z = true := by simp
      rw [e2]
      exact Or.inl rfl
theorem ev_cmp_ex (c : ClassFile.Cond) (z y : Nat) (Y N : ev_R) : ev_cmp c z z y y Y N = Y ∨ ev_cmp c z z y y Y N = N := by
  cases c
  · exact ev_eq_ex z y Y N
  · exact (ev_eq_ex z y N Y).symm
  all_goals first
    | exact ev_lt_ex z y Y N
    | exact (ev_lt_ex z y N Y).symm
    | exact ev_lt_ex y z Y N
    | exact (ev_lt_ex y z N Y).symm
theorem ev_1_cons (a : ev_V) (r : List ev_V) (k : ev_V → List ev_V → ev_R) : ev_1 (a :: r) k = k a r := rfl
theorem ev_2_cons (a b : ev_V) (r : List ev_V) (k : ev_V → ev_V → List ev_V → ev_R) : ev_2 (a :: b :: r) k = k a b r := rfl
theorem ev_rng_et (a : ev_V) (ha : Nat.beq a.1 0 = true) (k : Nat → Nat → ev_R) : ∃ z, ev_rng a k = k z z := by
  obtain ⟨t, u, b⟩ := a
  unfold ev_rng ev_p
  simp only []
  rw [show Nat.beq t 0 = true from ha]
  simp only [ev_fN_eq]
  exact ⟨_, rfl⟩
theorem ev_ifc_ex (c : ClassFile.Cond) (t : Nat) (a : ev_V) (ha : Nat.beq a.1 0 = true) {call : ev_Call} {Kn : ev_S} {Kj : Nat → ev_S} {al r : List ev_V} {ns nc : Nat} {h : ev_H} : eo_ifc c t call Kn Kj al (a :: r) ns nc h = Kj t al r ns nc h ∨ eo_ifc c t call Kn Kj al (a :: r) ns nc h = Kn al r ns nc h := by
  obtain ⟨z, hz⟩ := ev_rng_et a ha (fun x y => ev_cmp c x y 2147483648 2147483648 (Kj t al r ns nc h) (Kn al r ns nc h))
  unfold eo_ifc
  rw [ev_1_cons, hz]
  exact ev_cmp_ex c _ _ _ _
theorem ev_icmp_ex (c : ClassFile.Cond) (t : Nat) (a b : ev_V) (ha : Nat.beq a.1 0 = true) (hb : Nat.beq b.1 0 = true) {call : ev_Call} {Kn : ev_S} {Kj : Nat → ev_S} {al r : List ev_V} {ns nc : Nat} {h : ev_H} : eo_icmp c t call Kn Kj al (b :: a :: r) ns nc h = Kj t al r ns nc h ∨ eo_icmp c t call Kn Kj al (b :: a :: r) ns nc h = Kn al r ns nc h := by
  obtain ⟨z, hz⟩ := ev_rng_et a ha (fun x y => ev_rng b fun z w => ev_cmp c x y z w (Kj t al r ns nc h) (Kn al r ns nc h))
  obtain ⟨y, hy⟩ := ev_rng_et b hb (fun x y => ev_cmp c z z x y (Kj t al r ns nc h) (Kn al r ns nc h))
  unfold eo_icmp
  rw [ev_2_cons, hz, hy]
  exact ev_cmp_ex c _ _ _ _
section EvPaths
variable {l : Launch} {M : ev_M} {d ns nc : Nat} {v' : ev_V} {h' : ev_H} {p : Program} {e : Env} {s : State} {m : MethodId} {args : Array Value} {below : List Frame} {meth : Method} {c : Code} {D : va_G} {cA : ev_cA} {ads : List Nat} {A : Nat → Prop} {Q : State → Prop} {call : ev_Call}
theorem ev_spl_ok {al st : List ev_V} {ns1 nc1 pc : Nat} {h g : ev_H} {k : List ev_V → ev_R} (hk : ev_spl ns nc st k = some ((8, 7, 7), ns, nc, g)) (hg : ∀ st' g', k st' = some ((8, 7, 7), ns, nc, g') → ev_gd p l e (ev_rm (d + 1) 0 0) s m args below meth c Q M.2.2.1 D cA A ads nc ns ((8, 7, 7), ns, nc, h') pc al st' ns1 nc1 h) : ev_gd p l e (ev_rm (d + 1) 0 0) s m args below meth c Q M.2.2.1 D cA A ads nc ns ((8, 7, 7), ns, nc, h') pc al st ns1 nc1 h := by
  cases st with
  | nil => exact hg [] g hk
  | cons v r =>
    obtain ⟨t, lo, hi⟩ := v
    have hk' : Bool.rec (motive := fun _ => ev_R) (k ((t, lo, hi) :: r)) (Bool.rec (motive := fun _ => ev_R) (k ((t, lo, hi) :: r)) (ev_all ns nc (Nat.sub hi lo) fun j => ev_fN (Nat.mod (Nat.add (Nat.add lo j) 2147483648) 4294967296) fun u => k ((0, u, 0) :: r)) (Nat.ble (Nat.sub hi lo) 40)) (Nat.beq t 1) = some ((8, 7, 7), ns, nc, g) := hk
    cases h1 : Nat.beq t 1 with
    | false => rw [h1] at hk'; exact hg _ g hk'
    | true =>
      rw [h1] at hk'
      cases h2 : Nat.ble (Nat.sub hi lo) 40 with
      | false => rw [h2] at hk'; exact hg _ g hk'
      | true =>
        rw [h2] at hk'
        have h3 := ev_all_some (show ev_all ns nc (Nat.sub hi lo) (fun j => ev_fN (Nat.mod (Nat.add (Nat.add lo j) 2147483648) 4294967296) fun u => k ((0, u, 0) :: r)) = some ((8, 7, 7), ns, nc, g) from hk')
        have h4 : ∀ j, j ≤ Nat.sub hi lo → ev_gd p l e (ev_rm (d + 1) 0 0) s m args below meth c Q M.2.2.1 D cA A ads nc ns ((8, 7, 7), ns, nc, h') pc al ((0, (lo + j + 2147483648) % 4294967296, 0) :: r) ns1 nc1 h := by
          intro j hj
          obtain ⟨g', hg'⟩ := h3 j hj
          rw [ev_fN_eq] at hg'
          exact hg _ g' hg'
        have ht : t = 1 := Nat.eq_of_beq_eq_true h1
        subst ht
        refine ⟨(h4 0 (Nat.zero_le _)).1, (h4 0 (Nat.zero_le _)).2.1, fun ads2 ws H locs ls vs hp h0 h5 hwo hS hfr hst => ?_⟩
        obtain ⟨w, vs, rfl, q2, hst2⟩ := hst.cons
        obtain ⟨x, rfl, -, hx⟩ := q2.int (Nat.le_refl 1)
        obtain ⟨x1, x2⟩ := hx rfl
        have x3 := ev_key_lt x
        have hsub : Nat.sub hi lo = hi - lo := rfl
        refine (h4 (ev_key x - lo) (by rw [hsub]; omega)).2.2 ads2 ws H locs ls (.int x :: vs) hp h0 h5 hwo hS hfr ⟨?_, hst2⟩
        refine Or.inl ⟨rfl, ?_⟩
        show Value.int x = Value.int (ev_i ((lo + (ev_key x - lo) + 2147483648) % 4294967296))
        have hk2 := ev_key_of ((lo + (ev_key x - lo) + 2147483648) % 4294967296)
        exact congrArg Value.int (ev_key_eqI.mpr (by rw [hk2]; omega))
theorem ev_stepN_ok (ha : ev_act l M d ns nc v' h' p e s m args below meth c D cA ads A Q) (hcall : ∀ k M, ev_MT[k]? = some M → ∀ as ns nc h r, call k as ns nc h = some r → ev_Met l M d as ns nc h r) {x : ev_I} (o1 : ev_ok1 ev_MT M.1.cls (M.1.name == "<init>") M.2.2.2 x.1 x.2.1 x.2.2.1 x.2.2.2.1.1 x.2.2.2.1.2.1 x.2.2.2.1.2.2.1 x.2.2.2.1.2.2.2 x.2.2.2.2 = true) (o2 : decode M.2.1 x.1 = .ok (x.2.1, x.2.2.1)) {Kn : ev_S} {Kj : Nat → ev_S} {al st : List ev_V} {ns1 nc1 : Nat} {h g : ev_H}
    (hh : (ev_y x).2 ns nc (ev_fin v' h') call Kn Kj al st ns1 nc1 h = some ((8, 7, 7), ns, nc, g)) (hn : ∀ al st ns1 nc1 h g, Kn al st ns1 nc1 h = some ((8, 7, 7), ns, nc, g) → ev_gd p l e (ev_rm (d + 1) 0 0) s m args below meth c Q M.2.2.1 D cA A ads nc ns ((8, 7, 7), ns, nc, h') (x.1 + x.2.2.1) al st ns1 nc1 h) (hj : ∀ t al st ns1 nc1 h g, Kj t al st ns1 nc1 h = some ((8, 7, 7), ns, nc, g) → ev_gd p l e (ev_rm (d + 1) 0 0) s m args below meth c Q M.2.2.1 D cA A ads nc ns ((8, 7, 7), ns, nc, h') t al st ns1 nc1 h) : ev_gd p l e (ev_rm (d + 1) 0 0) s m args below meth c Q M.2.2.1 D cA A ads nc ns ((8, 7, 7), ns, nc, h') x.1 al st ns1 nc1 h := by
  have hgenP : ∀ {al st : List ev_V} {g : ev_H}, ey_p (ev_sem x.1 x.2.1 x.2.2.2.1.1 x.2.2.2.1.2.1 x.2.2.2.1.2.2.1 x.2.2.2.1.2.2.2) ns nc (ev_fin v' h') call Kn Kj al st ns1 nc1 h = some ((8, 7, 7), ns, nc, g) → ev_gd p l e (ev_rm (d + 1) 0 0) s m args below meth c Q M.2.2.1 D cA A ads nc ns ((8, 7, 7), ns, nc, h') x.1 al st ns1 nc1 h := by
    intro al st g hh
    exact ev_step_ok (below := below) (l := l) (e := e) (Q := Q) (ads0 := ads) en_all (ha.1 (8, 7, 7) g) ha.2.1 hcall o1 o2 _ _ al st ns1 nc1 h hh (fun al st ns1 nc1 h hk => ev_spl_ok (g := g) hk (fun st' g' hk' => hn _ _ _ _ _ g' hk')) (fun t al st ns1 nc1 h hk => hj t _ _ _ _ _ g hk)
  have hgen : (ev_y x).2 = ey_p (ev_sem x.1 x.2.1 x.2.2.2.1.1 x.2.2.2.1.2.1 x.2.2.2.1.2.2.1 x.2.2.2.1.2.2.2) → ev_gd p l e (ev_rm (d + 1) 0 0) s m args below meth c Q M.2.2.1 D cA A ads nc ns ((8, 7, 7), ns, nc, h') x.1 al st ns1 nc1 h := by
    intro hy
    rw [hy] at hh
    exact hgenP hh
  have hload : ∀ lo hi : Nat, (ev_y x).2 = ey_a lo hi → ev_sem x.1 x.2.1 x.2.2.2.1.1 x.2.2.2.1.2.1 x.2.2.2.1.2.2.1 x.2.2.2.1.2.2.2 = eo_ald lo hi → ev_gd p l e (ev_rm (d + 1) 0 0) s m args below meth c Q M.2.2.1 D cA A ads nc ns ((8, 7, 7), ns, nc, h') x.1 al st ns1 nc1 h := by
    intro lo hi hy hs
    rw [hy] at hh
    obtain ⟨i, o, r, rfl, hh2⟩ := ev_2_some (show ev_2 st (fun i o r => Bool.rec (motive := fun _ => ev_R) (ey_p (eo_ald lo hi) ns nc (ev_fin v' h') call Kn Kj al st ns1 nc1 h) (ev_if (Nat.ble 2147483648 i.2.1) (ev_if (Nat.blt i.2.2 2147549184) (ev_cell nc1 h o fun _ tag l => ev_if (Nat.ble lo tag) (ev_if (Nat.ble tag hi) (ev_drop (Nat.sub i.2.1 2147483648) l fun l' => ev_1 l' fun v _ => ev_same (Nat.succ (Nat.sub i.2.2 i.2.1)) v l' (ev_spl ns nc (v :: r) fun st' => Kn al st' ns1 nc1 h)))))) (Nat.beq i.1 1)) = some ((8, 7, 7), ns, nc, g) from hh)
    cases hz : Nat.beq i.1 1 with
    | false =>
      have hh3 : ey_p (eo_ald lo hi) ns nc (ev_fin v' h') call Kn Kj al (i :: o :: r) ns1 nc1 h = some ((8, 7, 7), ns, nc, g) := by rw [hz] at hh2; exact hh2
      rw [← hs] at hh3
      exact hgenP hh3
    | true =>
      have hh3 : ev_if (Nat.ble 2147483648 i.2.1) (ev_if (Nat.blt i.2.2 2147549184) (ev_cell nc1 h o fun _ tag l => ev_if (Nat.ble lo tag) (ev_if (Nat.ble tag hi) (ev_drop (Nat.sub i.2.1 2147483648) l fun l' => ev_1 l' fun v _ => ev_same (Nat.succ (Nat.sub i.2.2 i.2.1)) v l' (ev_spl ns nc (v :: r) fun st' => Kn al st' ns1 nc1 h))))) = some ((8, 7, 7), ns, nc, g) := by rw [hz] at hh2; exact hh2
      obtain ⟨z1, q1⟩ := ev_if_some hh3
      obtain ⟨z2, q2⟩ := ev_if_some q1
      obtain ⟨t1, t2, q3⟩ := ev_cell_some q2
      obtain ⟨z3, q4⟩ := ev_if_some q3
      obtain ⟨z4, q5⟩ := ev_if_some q4
      obtain ⟨l', q6, d1⟩ := ev_drop_at q5
      obtain ⟨v, r', rfl, q7⟩ := ev_1_some q6
      obtain ⟨s1, q8⟩ := ev_same_some q7
      have z1 : 2147483648 ≤ i.2.1 := Nat.le_of_ble_eq_true z1
      have z2 : i.2.2 + 1 ≤ 2147549184 := Nat.le_of_ble_eq_true z2
      have hit : i.1 = 1 := Nat.eq_of_beq_eq_true hz
      have e1 : Nat.sub i.2.1 2147483648 = i.2.1 - 2147483648 := rfl
      have e2 : Nat.sub i.2.2 i.2.1 = i.2.2 - i.2.1 := rfl
      rw [e1] at d1
      rw [e2] at s1
      have key : ∀ ej : ev_V, Nat.beq ej.1 0 = true → i.2.1 ≤ ej.2.1 + 2147483648 → ej.2.1 + 2147483648 ≤ i.2.2 → ev_gd p l e (ev_rm (d + 1) 0 0) s m args below meth c Q M.2.2.1 D cA A ads nc ns ((8, 7, 7), ns, nc, h') x.1 al (ej :: o :: r) ns1 nc1 h := by
        intro ej hj0 hj1 hj2
        refine hgenP (g := g) ?_
        rw [hs]
        have hl : (ev_hg h o.2.1).2[ej.2.1]? = some v := by
          have h1 := d1 (ej.2.1 + 2147483648 - i.2.1)
          rw [show i.2.1 - 2147483648 + (ej.2.1 + 2147483648 - i.2.1) = ej.2.1 by omega] at h1
          rw [h1]
          exact s1 _ (by omega)
        obtain ⟨ot, oa, ob⟩ := o
        have t1 : ot = 2 := t1
        subst t1
        obtain ⟨et, ea, eb⟩ := ej
        have hj0 : et = 0 := Nat.eq_of_beq_eq_true hj0
        subst hj0
        have hea : Nat.blt ea 65536 = true := Nat.ble_eq_true_of_le (by have : ea + 2147483648 ≤ i.2.2 := hj2; show ea + 1 ≤ 65536; omega)
        have hoa : Nat.blt oa nc1 = true := Nat.ble_eq_true_of_le t2
        have e : ey_p (eo_ald lo hi) ns nc (ev_fin v' h') call Kn Kj al ((0, ea, eb) :: (2, oa, ob) :: r) ns1 nc1 h = ev_if (Nat.beq 2 2) (ev_if (Nat.blt oa nc1) (ev_tget 8 h oa fun c => Prod.rec (motive := fun _ => ev_R) (fun tag l => ev_if (Nat.ble lo tag) (ev_if (Nat.ble tag hi) (ev_if (Nat.beq 0 0) (ev_if (Nat.blt ea 65536) (ev_get l ea fun v => ev_spl ns nc (v :: r) fun st' => Kn al st' ns1 nc1 h))))) c)) := rfl
        rw [e, ev_tget_k, hoa]
        show ev_if (Nat.ble lo (ev_hg h oa).1) (ev_if (Nat.ble (ev_hg h oa).1 hi) (ev_if (Nat.blt ea 65536) (ev_get (ev_hg h oa).2 ea fun v => ev_spl ns nc (v :: r) fun st' => Kn al st' ns1 nc1 h))) = _
        rw [show Nat.ble lo (ev_hg h oa).1 = true from z3, show Nat.ble (ev_hg h oa).1 hi = true from z4, hea]
        show ev_get (ev_hg h oa).2 ea (fun v => ev_spl ns nc (v :: r) fun st' => Kn al st' ns1 nc1 h) = _
        rw [ev_get_at hl]
        exact q8
      have hb : nc1 ≤ nc ∧ ns1 ≤ ns := by
        have := ev_spl_ok (g := g) (ns1 := ns1) (nc1 := nc1) (h := h) (al := al) (pc := x.1 + x.2.2.1) q8 (fun st' g' hk' => hn _ _ _ _ _ g' hk')
        exact ⟨this.1, this.2.1⟩
      refine ⟨hb.1, hb.2, fun ads2 ws H locs ls vs hp h0 h5 hwo hS hfr hst => ?_⟩
      obtain ⟨w, vs, rfl, q2, hst2⟩ := hst.cons
      obtain ⟨y, rfl, -, hy2⟩ := ev_rel.int (t := i.1) (a := i.2.1) (b := i.2.2) q2 (by omega)
      obtain ⟨y1, y2⟩ := hy2 hit
      have y3 := ev_key_of (ev_key y - 2147483648)
      obtain ⟨ej, hej⟩ : ∃ ej : ev_V, ej = (0, ev_key y - 2147483648, 0) := ⟨_, rfl⟩
      have g2 : ej.2.1 = ev_key y - 2147483648 := by rw [hej]
      refine (key ej (by rw [hej]; rfl) (by omega) (by omega)).2.2 ads2 ws H locs ls (.int y :: vs) hp h0 h5 hwo hS hfr ⟨?_, hst2⟩
      rw [hej]
      exact Or.inl ⟨rfl, congrArg Value.int (ev_key_eqI.mpr (by show ev_key y = ev_key (ev_i (ev_key y - 2147483648)); rw [y3]; omega))⟩
  obtain ⟨pc, ins, len, ⟨h1, h2, h3, h4⟩, w⟩ := x
  have hst := fun g Kn Kj al st ns1 nc1 h hh hn hj => ev_step_ok (below := below) (l := l) (e := e) (Q := Q) (ads0 := ads) (x := (pc, ins, len, (h1, h2, h3, h4), w)) (h1 := g) en_all (ha.1 (8, 7, 7) g) ha.2.1 hcall o1 o2 Kn Kj al st ns1 nc1 h hh hn hj
  have hse := fun (v : ev_V) (g : ev_H) => ev_sem_ok (below := below) (l := l) (e := e) (Q := Q) (ads0 := ads) (res := (v, ns, nc, g)) en_all (ha.1 v g) ha.2.1 hcall (MT := ev_MT) (pc := pc) (ins := ins) (len := len) (h1 := h1) (h2 := h2) (h3 := h3) (h4 := h4) (ws := w) (ret := M.2.2.2)
  cases ins
  case ifCond cd off =>
    have hh1 : ev_1 st (fun a r => Bool.rec (motive := fun _ => ev_R) (ev_if (Nat.ble a.1 1) (ev_both ns nc (Kj h1 al r ns1 nc1 h) (Kn al r ns1 nc1 h))) (eo_ifc cd h1 call Kn Kj al st ns1 nc1 h) (ev_dc cd a (0, 0, 0))) = some ((8, 7, 7), ns, nc, g) := hh
    obtain ⟨a, r, rfl, hh2⟩ := ev_1_some hh1
    cases hd : ev_dc cd a (0, 0, 0) with
    | true =>
      have hh3 : eo_ifc cd h1 call Kn Kj al (a :: r) ns1 nc1 h = some ((8, 7, 7), ns, nc, g) := by rw [hd] at hh2; exact hh2
      exact hst g Kn Kj al (a :: r) ns1 nc1 h hh3 (fun al st ns1 nc1 h hk => hn _ _ _ _ _ g hk) (fun t al st ns1 nc1 h hk => hj t _ _ _ _ _ g hk)
    | false =>
      have hh3 : ev_if (Nat.ble a.1 1) (ev_both ns nc (Kj h1 al r ns1 nc1 h) (Kn al r ns1 nc1 h)) = some ((8, 7, 7), ns, nc, g) := by rw [hd] at hh2; exact hh2
      obtain ⟨z1, hh4⟩ := ev_if_some hh3
      obtain ⟨⟨g1, k1⟩, k2⟩ := ev_both_some hh4
      have b1 := hn _ _ _ _ _ g k2
      refine ⟨b1.1, b1.2.1, fun ads2 ws H locs ls vs hp h0 h5 hwo hS hfr hs => ?_⟩
      obtain ⟨w, vs, rfl, q2, hs2⟩ := hs.cons
      obtain ⟨y, rfl, -⟩ := ev_rel.int (t := a.1) (a := a.2.1) (b := a.2.2) q2 (Nat.le_of_ble_eq_true z1)
      obtain ⟨ey, hey⟩ : ∃ ey : ev_V, ey = (0, ev_u y, 0) := ⟨_, rfl⟩
      have ey0 : Nat.beq ey.1 0 = true := by rw [hey]; rfl
      have ery : ev_rel ads2 ey (.int y) := by rw [hey]; exact ev_rel.ex _ y 0
      rcases ev_ifc_ex cd h1 ey ey0 (call := call) (Kn := Kn) (Kj := Kj) (al := al) (r := r) (ns := ns1) (nc := nc1) (h := h) with hz | hz
      · exact (hst g1 Kn Kj al (ey :: r) ns1 nc1 h (hz.trans k1) (fun al st ns1 nc1 h hk => hn _ _ _ _ _ g1 hk) (fun t al st ns1 nc1 h hk => hj t _ _ _ _ _ g1 hk)).2.2 ads2 ws H locs ls (.int y :: vs) hp h0 h5 hwo hS hfr ⟨ery, hs2⟩
      · exact (hst g Kn Kj al (ey :: r) ns1 nc1 h (hz.trans k2) (fun al st ns1 nc1 h hk => hn _ _ _ _ _ g hk) (fun t al st ns1 nc1 h hk => hj t _ _ _ _ _ g hk)).2.2 ads2 ws H locs ls (.int y :: vs) hp h0 h5 hwo hS hfr ⟨ery, hs2⟩
  case if_icmp cd off =>
    have hh1 : ev_2 st (fun b a r => Bool.rec (motive := fun _ => ev_R) (ev_if (Nat.ble a.1 1) (ev_if (Nat.ble b.1 1) (ev_both ns nc (Kj h1 al r ns1 nc1 h) (Kn al r ns1 nc1 h)))) (eo_icmp cd h1 call Kn Kj al st ns1 nc1 h) (ev_dc cd a b)) = some ((8, 7, 7), ns, nc, g) := hh
    obtain ⟨b, a, r, rfl, hh2⟩ := ev_2_some hh1
    cases hd : ev_dc cd a b with
    | true =>
      have hh3 : eo_icmp cd h1 call Kn Kj al (b :: a :: r) ns1 nc1 h = some ((8, 7, 7), ns, nc, g) := by rw [hd] at hh2; exact hh2
      exact hst g Kn Kj al (b :: a :: r) ns1 nc1 h hh3 (fun al st ns1 nc1 h hk => hn _ _ _ _ _ g hk) (fun t al st ns1 nc1 h hk => hj t _ _ _ _ _ g hk)
    | false =>
      have hh3 : ev_if (Nat.ble a.1 1) (ev_if (Nat.ble b.1 1) (ev_both ns nc (Kj h1 al r ns1 nc1 h) (Kn al r ns1 nc1 h))) = some ((8, 7, 7), ns, nc, g) := by rw [hd] at hh2; exact hh2
      obtain ⟨z1, hh4⟩ := ev_if_some hh3
      obtain ⟨z2, hh5⟩ := ev_if_some hh4
      obtain ⟨⟨g1, k1⟩, k2⟩ := ev_both_some hh5
      have b1 := hn _ _ _ _ _ g k2
      refine ⟨b1.1, b1.2.1, fun ads2 ws H locs ls vs hp h0 h5 hwo hS hfr hs => ?_⟩
      obtain ⟨w, vs, rfl, q2, hs2⟩ := hs.cons
      obtain ⟨w', vs, rfl, q3, hs3⟩ := hs2.cons
      obtain ⟨y, rfl, -⟩ := ev_rel.int (t := b.1) (a := b.2.1) (b := b.2.2) q2 (Nat.le_of_ble_eq_true z2)
      obtain ⟨y', rfl, -⟩ := ev_rel.int (t := a.1) (a := a.2.1) (b := a.2.2) q3 (Nat.le_of_ble_eq_true z1)
      obtain ⟨ey, hey⟩ : ∃ ey : ev_V, ey = (0, ev_u y, 0) := ⟨_, rfl⟩
      have ey0 : Nat.beq ey.1 0 = true := by rw [hey]; rfl
      have ery : ev_rel ads2 ey (.int y) := by rw [hey]; exact ev_rel.ex _ y 0
      obtain ⟨ez, hez⟩ : ∃ ez : ev_V, ez = (0, ev_u y', 0) := ⟨_, rfl⟩
      have ez0 : Nat.beq ez.1 0 = true := by rw [hez]; rfl
      have erz : ev_rel ads2 ez (.int y') := by rw [hez]; exact ev_rel.ex _ y' 0
      rcases ev_icmp_ex cd h1 ez ey ez0 ey0 (call := call) (Kn := Kn) (Kj := Kj) (al := al) (r := r) (ns := ns1) (nc := nc1) (h := h) with hz | hz
      · exact (hst g1 Kn Kj al (ey :: ez :: r) ns1 nc1 h (hz.trans k1) (fun al st ns1 nc1 h hk => hn _ _ _ _ _ g1 hk) (fun t al st ns1 nc1 h hk => hj t _ _ _ _ _ g1 hk)).2.2 ads2 ws H locs ls (.int y :: .int y' :: vs) hp h0 h5 hwo hS hfr ⟨ery, erz, hs3⟩
      · exact (hst g Kn Kj al (ey :: ez :: r) ns1 nc1 h (hz.trans k2) (fun al st ns1 nc1 h hk => hn _ _ _ _ _ g hk) (fun t al st ns1 nc1 h hk => hj t _ _ _ _ _ g hk)).2.2 ads2 ws H locs ls (.int y :: .int y' :: vs) hp h0 h5 hwo hS hfr ⟨ery, erz, hs3⟩
  case ireturn =>
    have hh1 : ev_1 st (fun v r => ev_if (ev_kind h1 v.1 v.2.1 v.2.2) (ev_0 r (ev_fin v' h' v ns1 nc1 h))) = some ((8, 7, 7), ns, nc, g) := hh
    obtain ⟨v, r, rfl, hh2⟩ := ev_1_some hh1
    obtain ⟨z1, hh3⟩ := ev_if_some hh2
    obtain ⟨rfl, hh4⟩ := ev_0_some hh3
    obtain ⟨z2, hh5⟩ := ev_if_some hh4
    obtain ⟨z3, hh6⟩ := ev_if_some hh5
    cases hh6
    have n9 : ∀ (ads2 : List Nat) (x : Int32), ev_rel ads2 v (.int x) → ¬ v'.1 = 9 := by
      intro ads2 x hr h9
      rcases ev_vle_ok z2 hr with ⟨q, -⟩ | ⟨q, -⟩ | ⟨q, -⟩ | ⟨q, -⟩ | ⟨q, -⟩ | ⟨q, -⟩ <;> omega
    refine hse v h (fun z ads2 ws H locs ls x hp hwo hS g9 hrel hd => ?_) (fun z ads2 ws H locs ls x hp hwo hS g9 hrel h01 hd => ?_) (fun z ads2 ws H locs ls hp hwo hS g9 hd => ?_) o1 o2 (fun _ _ _ _ _ => none) (fun _ _ _ _ _ _ => none) al [v] ns nc h ?_ (fun _ _ _ _ _ hk => by cases hk) (fun _ _ _ _ _ _ hk => by cases hk)
    · have := ha.2.2.1 z pc ads2 ws H locs ls x hp (hwo.le z3) hS (n9 ads2 x hrel) (ev_vle_ok z2 hrel) hd
      rw [Nat.sub_self, Nat.sub_self]; exact this
    · have := ha.2.2.2.1 z pc ads2 ws H locs ls x hp (hwo.le z3) hS (n9 ads2 x hrel) (ev_vle_ok z2 hrel) h01 hd
      rw [Nat.sub_self, Nat.sub_self]; exact this
    · exact absurd hd (by rw [o2]; simp)
    · show ev_if (ev_kind h1 v.1 v.2.1 v.2.2) (some (v, ns, nc, h)) = some (v, ns, nc, h)
      rw [z1]; rfl
  case return_ =>
    have hh1 : ev_0 st (ev_fin v' h' (9, 0, 0) ns1 nc1 h) = some ((8, 7, 7), ns, nc, g) := hh
    obtain ⟨rfl, hh4⟩ := ev_0_some hh1
    obtain ⟨z2, hh5⟩ := ev_if_some hh4
    obtain ⟨z3, hh6⟩ := ev_if_some hh5
    cases hh6
    have n9 : v'.1 = 9 := by
      rcases ev_vle_cases z2 with rfl | ⟨-, ⟨q, -⟩ | ⟨q, -⟩⟩
      · rfl
      · exact absurd (show (9 : Nat) = 0 from q) (by decide)
      · exact absurd (show (9 : Nat) = 1 from q) (by decide)
    refine hse (9, 0, 0) h (fun z ads2 ws H locs ls x hp hwo hS g9 hrel hd => ?_) (fun z ads2 ws H locs ls x hp hwo hS g9 hrel h01 hd => ?_) (fun z ads2 ws H locs ls hp hwo hS g9 hd => ?_) o1 o2 (fun _ _ _ _ _ => none) (fun _ _ _ _ _ _ => none) al [] ns nc h rfl (fun _ _ _ _ _ hk => by cases hk) (fun _ _ _ _ _ _ hk => by cases hk)
    · exact absurd rfl g9
    · exact absurd rfl g9
    · have := ha.2.2.2.2 z pc ads2 ws H locs ls hp (hwo.le z3) hS n9 hd
      rw [Nat.sub_self, Nat.sub_self]; exact this
  case iaload => exact hload 50 50 rfl rfl
  case baload => exact hload 51 52 rfl rfl
  all_goals exact hgen rfl
theorem ev_runN_ok (ha : ev_act l M d ns nc v' h' p e s m args below meth c D cA ads A Q) (hcall : ∀ k M, ev_MT[k]? = some M → ∀ as ns nc h r, call k as ns nc h = some r → ev_Met l M d as ns nc h r) {bp : Nat} {cuts : List ev_Cu} (hcut : ∀ cu ∈ cuts, ev_gd p l e (ev_rm (d + 1) 0 0) s m args below meth c Q M.2.2.1 D cA A ads nc ns ((8, 7, 7), ns, nc, h') bp cu.1 [] ns nc cu.2) (C : List ev_I) (hC : ev_okL ev_MT M.1.cls (M.1.name == "<init>") M.2.2.2 M.2.1 C) : ∀ (fuel : Nat) (E : List ev_I), ev_okL ev_MT M.1.cls (M.1.name == "<init>") M.2.2.2 M.2.1 E → ∀ (al st : List ev_V) (ns1 nc1 : Nat) (h g : ev_H), ev_runN ns nc (ev_fin v' h') call (C.map ev_y) bp (ev_cut1 cuts) fuel (E.map ev_y) al st ns1 nc1 h = some ((8, 7, 7), ns, nc, g) → ∃ x r, E = x :: r ∧ ev_gd p l e (ev_rm (d + 1) 0 0) s m args below meth c Q M.2.2.1 D cA A ads nc ns ((8, 7, 7), ns, nc, h') x.1 al st ns1 nc1 h := by
  intro fuel
  induction fuel with
  | zero => intro E hE al st ns1 nc1 h g hh; exact absurd hh (by simp [ev_runN])
  | succ f ih =>
    intro E hE al st ns1 nc1 h g hh
    cases E with
    | nil => exact absurd hh (by simp [ev_runN])
    | cons x r =>
      refine ⟨x, r, rfl, ?_⟩
      have hh' : Bool.rec (motive := fun _ => ev_R) ((ev_y x).2 ns nc (ev_fin v' h') call (ev_runN ns nc (ev_fin v' h') call (C.map ev_y) bp (ev_cut1 cuts) f (r.map ev_y)) (fun t => ev_runN ns nc (ev_fin v' h') call (C.map ev_y) bp (ev_cut1 cuts) f (ev_seekY (C.map ev_y) t)) al st ns1 nc1 h) (ev_cut1 cuts al st ns1 nc1 h) (Nat.beq x.1 bp) = some ((8, 7, 7), ns, nc, g) := hh
      cases hz : Nat.beq x.1 bp with
      | true =>
        have hh2 : ev_cut1 cuts al st ns1 nc1 h = some ((8, 7, 7), ns, nc, g) := by rw [hz] at hh'; exact hh'
        obtain ⟨rfl, hh3⟩ := ev_0_some hh2
        obtain ⟨z1, hh4⟩ := ev_if_some hh3
        cases hh4
        obtain ⟨cu, c1, c2, c3⟩ := ev_anyC_ok z1
        have hg := hcut cu c1
        rw [Nat.eq_of_beq_eq_true hz]
        exact ⟨hg.1, hg.2.1, fun ads2 ws H locs ls vs hp h0 h1 hwo hS hfr hst => hg.2.2 ads2 ws H locs ls vs hp h0 h1 (hwo.le c3) hS (hfr.le c2) hst⟩
      | false =>
        have hh2 : (ev_y x).2 ns nc (ev_fin v' h') call (ev_runN ns nc (ev_fin v' h') call (C.map ev_y) bp (ev_cut1 cuts) f (r.map ev_y)) (fun t => ev_runN ns nc (ev_fin v' h') call (C.map ev_y) bp (ev_cut1 cuts) f (ev_seekY (C.map ev_y) t)) al st ns1 nc1 h = some ((8, 7, 7), ns, nc, g) := by rw [hz] at hh'; exact hh'
        obtain ⟨o1, o2, o3, o4⟩ := hE
        refine ev_stepN_ok ha hcall o1 o2 hh2 ?_ ?_
        · intro al st ns1 nc1 h g hk
          obtain ⟨y, r', hy, hg⟩ := ih r o4 al st ns1 nc1 h g hk
          rw [← o3 y r' hy]
          exact hg
        · intro t al st ns1 nc1 h g hk
          obtain ⟨E', e1, e2, e3⟩ := ev_seekY_ok t C hC
          have hk' : ev_runN ns nc (ev_fin v' h') call (C.map ev_y) bp (ev_cut1 cuts) f (ev_seekY (C.map ev_y) t) al st ns1 nc1 h = some ((8, 7, 7), ns, nc, g) := hk
          rw [e1] at hk'
          obtain ⟨y, r', hy, hg⟩ := ih E' e2 al st ns1 nc1 h g hk'
          rw [← e3 y r' hy]
          exact hg
theorem ev_runM_ok (ha : ev_act l M d ns nc v' h' p e s m args below meth c D cA ads A Q) (hcall : ∀ k M, ev_MT[k]? = some M → ∀ as ns nc h r, call k as ns nc h = some r → ev_Met l M d as ns nc h r) {bp : Nat} {cuts : List ev_Cu} (hcut : ∀ cu ∈ cuts, ev_gd p l e (ev_rm (d + 1) 0 0) s m args below meth c Q M.2.2.1 D cA A ads nc ns ((8, 7, 7), ns, nc, h') bp cu.1 [] ns nc cu.2) (C : List ev_I) (hC : ev_okL ev_MT M.1.cls (M.1.name == "<init>") M.2.2.2 M.2.1 C) (fuel : Nat) (al st : List ev_V) (ns1 nc1 : Nat) (h g : ev_H) (hh : ev_runM ns nc (ev_fin v' h') call (C.map ev_y) bp (ev_cut1 cuts) fuel (ev_seekY (C.map ev_y) bp) al st ns1 nc1 h = some ((8, 7, 7), ns, nc, g)) : ev_gd p l e (ev_rm (d + 1) 0 0) s m args below meth c Q M.2.2.1 D cA A ads nc ns ((8, 7, 7), ns, nc, h') bp al st ns1 nc1 h := by
  have key := ev_runN_ok ha hcall hcut C hC fuel
  obtain ⟨E, e1, e2, e3⟩ := ev_seekY_ok bp C hC
  rw [e1] at hh
  cases E with
  | nil => exact absurd hh (by simp [ev_runM])
  | cons x r =>
    have hh2 : (ev_y x).2 ns nc (ev_fin v' h') call (ev_runN ns nc (ev_fin v' h') call (C.map ev_y) bp (ev_cut1 cuts) fuel (r.map ev_y)) (fun t => ev_runN ns nc (ev_fin v' h') call (C.map ev_y) bp (ev_cut1 cuts) fuel (ev_seekY (C.map ev_y) t)) al st ns1 nc1 h = some ((8, 7, 7), ns, nc, g) := hh
    obtain ⟨o1, o2, o3, o4⟩ := e2
    rw [← e3 x r rfl]
    refine ev_stepN_ok ha hcall o1 o2 hh2 ?_ ?_
    · intro al st ns1 nc1 h g hk
      obtain ⟨y, r', hy, hg⟩ := key r o4 al st ns1 nc1 h g hk
      rw [← o3 y r' hy]
      exact hg
    · intro t al st ns1 nc1 h g hk
      obtain ⟨E', q1, q2, q3⟩ := ev_seekY_ok t C hC
      have hk' : ev_runN ns nc (ev_fin v' h') call (C.map ev_y) bp (ev_cut1 cuts) fuel (ev_seekY (C.map ev_y) t) al st ns1 nc1 h = some ((8, 7, 7), ns, nc, g) := hk
      rw [q1] at hk'
      obtain ⟨y, r', hy, hg⟩ := key E' q2 al st ns1 nc1 h g hk'
      rw [← q3 y r' hy]
      exact hg
end EvPaths
/-- each cut's run ends, or comes to a cut behind it in the list -/
def ev_cutsOk (ns nc : Nat) (v' : ev_V) (h' : ev_H) (call : ev_Call) (Y : List ev_Y) (bp fuel : Nat) : List ev_Cu → Prop
  | [] => True
  | c :: r => ev_okR ns nc (ev_runM ns nc (ev_fin v' h') call Y bp (ev_cut1 r) fuel (ev_seekY Y bp) c.1 [] ns nc c.2) = true ∧ ev_cutsOk ns nc v' h' call Y bp fuel r
theorem ev_Met_paths {l : Launch} {M : ev_M} {d ns nc : Nat} {as : List ev_V} {h : ev_H} {v' : ev_V} {h' : ev_H} (hpl : plainName M.1.cls = true) (p1 : as.length ≤ M.2.2.1) (p2 : ∀ v ∈ as, v.1 ≤ 3) {call : ev_Call} (hcall : ∀ k M, ev_MT[k]? = some M → ∀ as ns nc h r, call k as ns nc h = some r → ev_Met l M d as ns nc h r) {C : List ev_I} (hC : ev_okL ev_MT M.1.cls (M.1.name == "<init>") M.2.2.2 M.2.1 C) {Y : List ev_Y} (hY : Y = C.map ev_y) (h0 : ∀ x r, C = x :: r → x.1 = 0) {bp fuel : Nat} {cuts : List ev_Cu} (hcuts : ev_cutsOk ns nc v' h' call Y bp fuel cuts)
    (hrun : ev_okR ns nc (ev_runN ns nc (ev_fin v' h') call Y bp (ev_cut1 cuts) fuel Y (as ++ List.replicate (M.2.2.1 - as.length) (9, 0, 0)) [] ns nc h) = true) : ev_Met l M (d + 1) as ns nc h (v', ns, nc, h') := by
  refine ev_Met_of hpl p1 p2 ?_
  intro p e s m args below meth c D cA ads ws ls A Q ha hwo hS hfr
  subst hY
  have hg : ∀ cuts : List ev_Cu, ev_cutsOk ns nc v' h' call (C.map ev_y) bp fuel cuts → ∀ cu ∈ cuts, ev_gd p l e (ev_rm (d + 1) 0 0) s m args below meth c Q M.2.2.1 D cA A ads nc ns ((8, 7, 7), ns, nc, h') bp cu.1 [] ns nc cu.2 := by
    intro cuts
    induction cuts with
    | nil => intro _ cu hcu; cases hcu
    | cons c0 r ih =>
      intro hh cu hcu
      obtain ⟨g, hg⟩ := ev_okR_ok hh.1
      rcases List.mem_cons.mp hcu with rfl | hcu
      · exact ev_runM_ok ha hcall (ih hh.2) C hC fuel _ _ _ _ _ g hg
      · exact ih hh.2 cu hcu
  obtain ⟨g, hr⟩ := ev_okR_ok hrun
  obtain ⟨x, r, hx, hgd⟩ := ev_runN_ok ha hcall (hg cuts hcuts) C hC fuel C hC _ _ _ _ _ g hr
  have := hgd.2.2 ads ws s.heap [] ls [] ⟨[], by simp⟩ (Nat.le_refl _) (Nat.le_refl _) hwo hS hfr trivial
  rw [h0 x r hx, Nat.sub_self, Nat.sub_self] at this
  exact this
theorem ev_Met.leH {l : Launch} {M : ev_M} {d ns nc : Nat} {as : List ev_V} {h h' : ev_H} {r : ev_V × Nat × Nat × ev_H} (hm : ev_Met l M d as ns nc h' r) (hh : ev_hle 8 h' h = true) : ev_Met l M d as ns nc h r :=
  ⟨hm.1, hm.2.1, fun D cA ads ws vs sz hrel => MetFree.mono (hm.2.2 D cA ads ws vs sz hrel) (fun a U hp => ⟨hp.1, hp.2.1, hp.2.2.1.le hh, hp.2.2.2⟩) (fun _ _ _ _ _ h => h) (fun _ _ _ _ _ h => h)⟩
/-- calls, with a contract for one method put in -/
noncomputable def ev_or (k0 : Nat) (ok : List ev_V → Bool) (NS NC : Nat) (h0 : ev_H) (v : ev_V) (h1 : ev_H) (base : ev_Call) : ev_Call := fun k as ns nc h => Bool.rec (motive := fun _ => ev_R) (base k as ns nc h) (ev_if (ok as) (ev_if (Nat.beq ns NS) (ev_if (Nat.beq nc NC) (ev_if (ev_hle 8 h0 h) (some (v, NS, NC, h1)))))) (Nat.beq k k0)
theorem ev_or_ok {l : Launch} {d k0 : Nat} {ok : List ev_V → Bool} {NS NC : Nat} {h0 h1 : ev_H} {v : ev_V} {base : ev_Call} (hb : ∀ k M, ev_MT[k]? = some M → ∀ as ns nc h r, base k as ns nc h = some r → ev_Met l M d as ns nc h r) {M0 : ev_M} (h00 : ev_MT[k0]? = some M0) (hm : ∀ as, ok as = true → ev_Met l M0 d as NS NC h0 (v, NS, NC, h1)) : ∀ k M, ev_MT[k]? = some M → ∀ as ns nc h r, ev_or k0 ok NS NC h0 v h1 base k as ns nc h = some r → ev_Met l M d as ns nc h r := by
  intro k M hk as ns nc h r hr
  have hr' : Bool.rec (motive := fun _ => ev_R) (base k as ns nc h) (ev_if (ok as) (ev_if (Nat.beq ns NS) (ev_if (Nat.beq nc NC) (ev_if (ev_hle 8 h0 h) (some (v, NS, NC, h1)))))) (Nat.beq k k0) = some r := hr
  cases hz : Nat.beq k k0 with
  | false =>
    rw [hz] at hr'
    exact hb k M hk as ns nc h r hr'
  | true =>
    have hr2 : ev_if (ok as) (ev_if (Nat.beq ns NS) (ev_if (Nat.beq nc NC) (ev_if (ev_hle 8 h0 h) (some (v, NS, NC, h1))))) = some r := by rw [hz] at hr'; exact hr'
    obtain ⟨z1, q1⟩ := ev_if_some hr2
    obtain ⟨z2, q2⟩ := ev_if_some q1
    obtain ⟨z3, q3⟩ := ev_if_some q2
    obtain ⟨z4, q4⟩ := ev_if_some q3
    cases q4
    rw [Nat.eq_of_beq_eq_true z2, Nat.eq_of_beq_eq_true z3]
    rw [Nat.eq_of_beq_eq_true hz, h00] at hk
    cases hk
    exact (hm as z1).leH z4
