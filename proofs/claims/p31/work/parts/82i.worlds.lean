/-! THE LAW FROM ITS ENTRY: the classes of the world -/
theorem lw_worlds {s : State} {b : Nat} (hts : ∀ w ∈ lw_tbl, w.before #[Value.ref b] s = true) : ∃ (D : va_G) (c1 : Nat → ClassId), va_K D en_classes (e2_tys (lw_no c1)) s ∧ en_N s := by
  have htw : ∀ w ∈ en_WS, w.before #[Value.ref b] s = true := fun w hw => hts w (List.mem_filter.mp hw).1
  have h : ∀ k : Nat, ∃ x : ClassId × (Nat → Nat), ∀ q, en_classes[k]? = some q → u_Kn s q.1 q.2.1 q.2.2 x.1 x.2 := by
    intro k
    cases hk : en_classes[k]? with
    | none => exact ⟨(0, fun _ => 0), fun q hq => by cases hq⟩
    | some q =>
      obtain ⟨cc, i, hh⟩ := u_known (n := q.2.2) htw (en_all q (List.mem_of_getElem? hk)).1 (htw _ (lwt_all q (List.mem_of_getElem? hk)))
      exact ⟨(cc, i), fun q' hq => by cases hq; exact hh⟩
  have ha : ∀ ty : FieldType, Cond.arrayClass ty ∈ en_WS → (∀ C, ty ≠ .object C) → ∃ cA : ClassId, ArrOfT s cA ty ∧ va_RA s cA ty := by
    intro ty hw hC
    obtain ⟨cc, k, comp, h1, h2, h3⟩ := Cond.arrayClass_spec (htw _ hw)
    refine ⟨cc, fun n z => ⟨fun k h => (by cases h), k, h2, comp, h3⟩, ?_⟩
    cases ty
    case object C => exact absurd rfl (hC C)
    all_goals exact h1
  obtain ⟨c0, a0⟩ := ha .int lwa_int (fun C z => by cases z)
  obtain ⟨c1, a1⟩ := ha .byte lwa_byte (fun C z => by cases z)
  obtain ⟨c2, a2⟩ := ha .boolean lwa_boolean (fun C z => by cases z)
  obtain ⟨c3, a3⟩ := ha .long lwa_long (fun C z => by cases z)
  refine ⟨(fun k => (Classical.choose (h k)).1, fun k => (Classical.choose (h k)).2), fun k => match k with | 0 => c0 | 1 => c1 | 2 => c2 | _ => c3, ⟨fun k q hq => Classical.choose_spec (h k) q hq, fun k q hq => ?_⟩, fun w hw => ?_⟩
  · match k, hq with
    | 0, hq => cases hq; exact a0
    | 1, hq => cases hq; exact a1
    | 2, hq => cases hq; exact a2
    | 3, hq => cases hq; exact a3
    | k + 4, hq => simp [e2_tys] at hq
  · have h1 := hts w (List.mem_filter.mp hw).1
    have h2 := (List.mem_filter.mp hw).2
    cases w
    case fieldLinkNest => exact va_Nw.of rfl h1
    case methodLinkNest => exact va_Nw.of rfl h1
    all_goals exact absurd h2 (by simp [en_isN])

