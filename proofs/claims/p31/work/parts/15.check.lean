/-! THE CHECK of the tables -/
noncomputable def ev_chk (MT : List ev_M) (own : String) (ini : Bool) (ret : Option FieldType) (cc : ByteArray) : List ev_I → Bool
  | [] => true
  | x :: r => ev_ok1 MT own ini ret x.1 x.2.1 x.2.2.1 x.2.2.2.1.1 x.2.2.2.1.2.1 x.2.2.2.1.2.2.1 x.2.2.2.1.2.2.2 x.2.2.2.2 && (decide (decode cc x.1 = .ok (x.2.1, x.2.2.1)) && ((match r with | [] => true | y :: _ => Nat.beq y.1 (x.1 + x.2.2.1)) && ev_chk MT own ini ret cc r))
theorem ev_chk_ok {MT : List ev_M} {own : String} {ini : Bool} {ret : Option FieldType} {cc : ByteArray} : ∀ C : List ev_I, ev_chk MT own ini ret cc C = true → ev_okL MT own ini ret cc C := by
  intro C
  induction C with
  | nil => intro _; trivial
  | cons x r ih =>
    intro h
    simp only [ev_chk, Bool.and_eq_true, decide_eq_true_eq] at h
    obtain ⟨h1, h2, h3, h4⟩ := h
    refine ⟨h1, h2, fun y r' hr => ?_, ih h4⟩
    subst hr
    exact Nat.eq_of_beq_eq_true h3
def ev_P (k : Nat) (M : ev_M) : Prop := ∃ (x : ev_I) (r : List ev_I), x.1 = 0 ∧ ev_tget 8 ev_XT k id = (M.2.2.1, (x :: r).map ev_x) ∧ ev_okL ev_MT M.1.cls (M.1.name == "<init>") M.2.2.2 M.2.1 (x :: r) ∧ plainName M.1.cls = true
def ev_allP : Nat → List ev_M → Prop
  | _, [] => True
  | i, M :: r => ev_P i M ∧ ev_allP (i + 1) r
theorem ev_allP_get : ∀ (L : List ev_M) (i : Nat), ev_allP i L → ∀ k M, L[k]? = some M → ev_P (i + k) M := by
  intro L
  induction L with
  | nil => intro i _ k M h; simp at h
  | cons x r ih =>
    intro i h k M hk
    cases k with
    | zero => cases hk; exact h.1
    | succ k =>
      rw [List.getElem?_cons_succ] at hk
      have := ih (i + 1) h.2 k M hk
      rw [show i + (k + 1) = i + 1 + k by omega]
      exact this
