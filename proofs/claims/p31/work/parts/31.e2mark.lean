/-- the instructions with marks: at those pcs the top of the stack is split -/
def e2_mark (S : List Nat) (C : List ev_I) : List e2_I := C.map (fun x => (x, S.contains x.1))
theorem e2_chk_ok {MT : List ev_M} {own : String} {ini : Bool} {ret : Option FieldType} {cc : ByteArray} (S : List Nat) : ∀ C : List ev_I, e2_chk MT own ini ret cc C = true → e2_okL MT own ini ret cc (e2_mark S C) := by
  intro C
  induction C with
  | nil => intro _; trivial
  | cons x r ih =>
    intro h
    simp only [e2_chk, Bool.and_eq_true, decide_eq_true_eq] at h
    obtain ⟨h1, h2, h3, h4, h5⟩ := h
    refine ⟨h1, h2, h3, fun y r' hr => ?_, ih h5⟩
    cases r with
    | nil => cases hr
    | cons z r =>
      cases hr
      exact Nat.eq_of_beq_eq_true h4
