/-! A HEAP OF WHICH LESS IS KNOWN: cells of tag 54 and on say nothing -/
noncomputable def ev_jeq (n : Nat) : ev_T ev_C n → ev_T ev_C n → Bool :=
  Nat.rec (motive := fun n => ev_T ev_C n → ev_T ev_C n → Bool) (fun a b => Bool.rec (motive := fun _ => Bool) (ev_ceq a b) true (Nat.ble 54 (show ev_C from a).1)) (fun n ih a b => Prod.rec (motive := fun _ => Bool) (fun (a1 : ev_T ev_C n) (a2 : ev_T ev_C n) => Prod.rec (motive := fun _ => Bool) (fun (b1 : ev_T ev_C n) (b2 : ev_T ev_C n) => Bool.rec (motive := fun _ => Bool) false (ih a2 b2) (ih a1 b1)) (b : ev_T ev_C n × ev_T ev_C n)) (a : ev_T ev_C n × ev_T ev_C n)) n
theorem ev_jeq_ok : ∀ (n : Nat) (a b : ev_T ev_C n), ev_jeq n a b = true → ∀ k, ev_tget n a k id = ev_tget n b k id ∨ 54 ≤ (ev_tget n a k id).1 := by
  intro n
  induction n with
  | zero =>
    intro a b h k
    have h' : Bool.rec (motive := fun _ => Bool) (ev_ceq a b) true (Nat.ble 54 (show ev_C from a).1) = true := h
    cases hz : Nat.ble 54 (show ev_C from a).1 with
    | true => exact Or.inr (Nat.le_of_ble_eq_true hz)
    | false =>
      rw [hz] at h'
      have h2 : ev_ceq a b = true := h'
      simp only [ev_ceq, Bool.and_eq_true] at h2
      exact Or.inl (Prod.ext (Nat.eq_of_beq_eq_true h2.1) (ev_leq_ok h2.2))
  | succ n ih =>
    intro a b h k
    obtain ⟨a1, a2, rfl⟩ : ∃ (l r : ev_T ev_C n), a = (show ev_T ev_C (n + 1) from ((l, r) : ev_T ev_C n × ev_T ev_C n)) := ⟨(show ev_T ev_C n × ev_T ev_C n from a).1, (show ev_T ev_C n × ev_T ev_C n from a).2, rfl⟩
    obtain ⟨b1, b2, rfl⟩ : ∃ (l r : ev_T ev_C n), b = (show ev_T ev_C (n + 1) from ((l, r) : ev_T ev_C n × ev_T ev_C n)) := ⟨(show ev_T ev_C n × ev_T ev_C n from b).1, (show ev_T ev_C n × ev_T ev_C n from b).2, rfl⟩
    have h' : Bool.rec (motive := fun _ => Bool) false (ev_jeq n a2 b2) (ev_jeq n a1 b1) = true := h
    cases h1 : ev_jeq n a1 b1 with
    | false => rw [h1] at h'; exact absurd h' (by simp)
    | true =>
      rw [h1] at h'
      have g1 := ih a1 b1 h1 (Nat.div k 2)
      have g2 := ih a2 b2 h' (Nat.div k 2)
      show Bool.rec (motive := fun _ => ev_C) (ev_tget n a1 (Nat.div k 2) id) (ev_tget n a2 (Nat.div k 2) id) (Nat.beq (Nat.mod k 2) 1) = Bool.rec (motive := fun _ => ev_C) (ev_tget n b1 (Nat.div k 2) id) (ev_tget n b2 (Nat.div k 2) id) (Nat.beq (Nat.mod k 2) 1) ∨ 54 ≤ (Bool.rec (motive := fun _ => ev_C) (ev_tget n a1 (Nat.div k 2) id) (ev_tget n a2 (Nat.div k 2) id) (Nat.beq (Nat.mod k 2) 1) : ev_C).1
      cases Nat.beq (Nat.mod k 2) 1
      · exact g1
      · exact g2
theorem ev_wo.junk {D : va_G} {cA : Nat → ClassId} {A : Nat → Prop} {ads : List Nat} {ws : va_W} {nc : Nat} {g h : ev_H} {H : Heap} (hw : ev_wo D cA A ads ws nc h H) (hg : ev_jeq 8 g h = true) : ev_wo D cA A ads ws nc g H := by
  obtain ⟨h1, h2, h3, h4, h5, h6⟩ := hw
  refine ⟨h1, h2, h3, fun k hk => ?_, h5, h6⟩
  obtain ⟨a, e, q1, q2⟩ := h4 k hk
  refine ⟨a, e, q1, ?_⟩
  have hz : ev_hg g k = ev_hg h k ∨ 54 ≤ (ev_hg g k).1 := ev_jeq_ok 8 g h hg k
  rcases hz with hz | hz
  · rw [hz]; exact q2
  · exact Or.inr (Or.inr (Or.inr hz))
