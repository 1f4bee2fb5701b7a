/-! WHAT THE SECOND ENGINE'S VALUES MEAN -/
def e2_rel (ads r : List Nat) (v : ev_V) (w : Value) : Prop := match v.1 with
  | 0 => w = .int (ev_i v.2.1)
  | 1 => ∃ (x : Int32) (k : Nat), w = .int x ∧ r[v.2.1]? = some k ∧ ev_key x + 4294967296 = k + v.2.2
  | 2 => ∃ a, ads[v.2.1]? = some a ∧ w = .ref a
  | 3 => w = .null
  | 4 => w = .long (Int64.ofNat v.2.1)
  | 5 => ∃ x : Int64, w = .long x
  | 6 => ∃ k, r[v.2.1]? = some k ∧ w = .long (Int64.ofNat k) ∧ k < 18446744073709551616
  | 7 => True
  | 11 => ∃ x : Int32, w = .int x ∧ v.2.1 ≤ ev_key x ∧ ev_key x ≤ v.2.2
  | 12 => ∃ (x : Int32) (k : Nat), w = .int x ∧ r[v.2.1 % 8]? = some k ∧ ev_key x + v.2.1 / 8 ≤ k ∧ v.2.2 ≤ ev_key x
  | 13 => ∃ (x : Int32) (k : Nat), w = .int x ∧ r[v.2.1 % 8]? = some k ∧ k + v.2.1 / 8 ≤ ev_key x ∧ ev_key x ≤ v.2.2
  | 14 => ∃ (x : Int32) (k : Nat), w = .int x ∧ r[v.2.1]? = some k ∧ (x = 0 ↔ k = v.2.2)
  | 15 => ∃ (x : Int32) (k : Nat), w = .int x ∧ r[v.2.1 % 8]? = some k ∧ 2147483648 ≤ ev_key x ∧ ev_key x ≤ v.2.2 ∧ (2147483648 + v.2.1 / 8 < k → 2147483649 ≤ ev_key x)
  | _ => False
def e2_sat (r : List Nat) (E : e2_E) : Prop := r.length = E.length ∧ ∀ (i : Nat) (b : e2_B), E[i]? = some b → ∃ k kb, r[i]? = some k ∧ b.1 ≤ k ∧ k ≤ b.2.1 ∧ r[b.2.2.1]? = some kb ∧ kb + b.2.2.2 ≤ k
theorem e2_rel.mono {ads r r' : List Nat} {v : ev_V} {w : Value} (h : e2_rel ads r v w) (hp : ∃ x, r' = r ++ x) : e2_rel ads r' v w := by
  obtain ⟨x, rfl⟩ := hp
  have key : ∀ {i k : Nat}, r[i]? = some k → (r ++ x)[i]? = some k := fun h => by rw [List.getElem?_append_left (List.getElem?_eq_some_iff.mp h).1]; exact h
  obtain ⟨t, a, b⟩ := v
  match t, h with
  | 0, h => exact h
  | 1, h => obtain ⟨y, k, h1, h2, h3⟩ := h; exact ⟨y, k, h1, key h2, h3⟩
  | 2, h => exact h
  | 3, h => exact h
  | 4, h => exact h
  | 5, h => exact h
  | 6, h => obtain ⟨k, h1, h2⟩ := h; exact ⟨k, key h1, h2⟩
  | 7, h => exact h
  | 8, h => exact h
  | 9, h => exact h
  | 10, h => exact h
  | 11, h => exact h
  | 12, h => obtain ⟨y, k, h1, h2, h3⟩ := h; exact ⟨y, k, h1, key h2, h3⟩
  | 13, h => obtain ⟨y, k, h1, h2, h3⟩ := h; exact ⟨y, k, h1, key h2, h3⟩
  | 14, h => obtain ⟨y, k, h1, h2, h3⟩ := h; exact ⟨y, k, h1, key h2, h3⟩
  | 15, h => obtain ⟨y, k, h1, h2, h3⟩ := h; exact ⟨y, k, h1, key h2, h3⟩
  | n + 16, h => exact h
theorem e2_isI_cases {t : Nat} (h : e2_isI t = true) : t = 0 ∨ t = 1 ∨ t = 11 := by
  simp only [e2_isI, Bool.or_eq_true] at h
  rcases h with h | h | h
  · exact Or.inl (Nat.eq_of_beq_eq_true h)
  · exact Or.inr (Or.inl (Nat.eq_of_beq_eq_true h))
  · exact Or.inr (Or.inr (Nat.eq_of_beq_eq_true h))
theorem e2_isL_cases {t : Nat} (h : e2_isL t = true) : t = 4 ∨ t = 5 ∨ t = 6 := by
  simp only [e2_isL, Bool.or_eq_true] at h
  rcases h with h | h | h
  · exact Or.inl (Nat.eq_of_beq_eq_true h)
  · exact Or.inr (Or.inl (Nat.eq_of_beq_eq_true h))
  · exact Or.inr (Or.inr (Nat.eq_of_beq_eq_true h))
theorem e2_rel.int {ads r : List Nat} {v : ev_V} {w : Value} (h : e2_rel ads r v w) (ht : v.1 = 0 ∨ v.1 = 1 ∨ v.1 = 11 ∨ v.1 = 13 ∨ v.1 = 14) : ∃ x : Int32, w = .int x := by
  obtain ⟨t, a, b⟩ := v
  rcases ht with ht | ht | ht | ht | ht <;> have ht : t = _ := ht <;> subst ht
  · exact ⟨_, h⟩
  · obtain ⟨y, k, h1, -⟩ := h; exact ⟨y, h1⟩
  · obtain ⟨y, h1, -⟩ := h; exact ⟨y, h1⟩
  · obtain ⟨y, k, h1, -⟩ := h; exact ⟨y, h1⟩
  · obtain ⟨y, k, h1, -⟩ := h; exact ⟨y, h1⟩
theorem e2_rel.intI {ads r : List Nat} {v : ev_V} {w : Value} (h : e2_rel ads r v w) (ht : e2_isI v.1 = true) : ∃ x : Int32, w = .int x := by
  rcases e2_isI_cases ht with z | z | z
  · exact h.int (Or.inl z)
  · exact h.int (Or.inr (Or.inl z))
  · exact h.int (Or.inr (Or.inr (Or.inl z)))
theorem e2_rel.intU {ads r : List Nat} {v : ev_V} {w : Value} (h : e2_rel ads r v w) (ht : v.1 = 13 ∨ v.1 = 15 ∨ e2_isI v.1 = true) : ∃ x : Int32, w = .int x := by
  rcases ht with z | z | z
  · exact h.int (Or.inr (Or.inr (Or.inr (Or.inl z))))
  · obtain ⟨t, a, b⟩ := v
    have z : t = 15 := z
    subst z
    obtain ⟨y, k, h1, -⟩ := h
    exact ⟨y, h1⟩
  · exact h.intI z
theorem e2_rel.long {ads r : List Nat} {v : ev_V} {w : Value} (h : e2_rel ads r v w) (ht : e2_isL v.1 = true) : ∃ x : Int64, w = .long x := by
  obtain ⟨t, a, b⟩ := v
  rcases e2_isL_cases ht with ht | ht | ht <;> have ht : t = _ := ht <;> subst ht
  · exact ⟨_, h⟩
  · exact h
  · obtain ⟨k, -, h1, -⟩ := h; exact ⟨_, h1⟩
theorem e2_rel.ref {ads r : List Nat} {v : ev_V} {w : Value} (h : e2_rel ads r v w) (ht : v.1 = 2) : ∃ q, ads[v.2.1]? = some q ∧ w = .ref q := by
  obtain ⟨t, a, b⟩ := v
  have ht : t = 2 := ht
  subst ht
  exact h
theorem e2_rel.top (ads r : List Nat) (x : Int32) : e2_rel ads r (11, 0, 4294967295) (.int x) := ⟨x, rfl, Nat.zero_le _, ev_key_lt x⟩
theorem e2_rel.ex (ads r : List Nat) (x : Int32) (b : Nat) : e2_rel ads r (0, ev_u x, b) (.int x) := by
  show Value.int x = .int (ev_i (ev_u x))
  rw [ev_iu]
theorem e2_rel.of (ads r : List Nat) (u b : Nat) : e2_rel ads r (0, u, b) (.int (ev_i u)) := rfl
theorem e2_rel.cat1 {ads r : List Nat} {v : ev_V} {w : Value} (h : e2_rel ads r v w) (ht : e2_isL v.1 = false) (h7 : v.1 ≠ 7) : w.category = 1 := by
  obtain ⟨t, a, b⟩ := v
  match t, h, ht, h7 with
  | 0, h, _, _ => rw [show w = _ from h]; rfl
  | 1, h, _, _ => obtain ⟨y, k, h1, -⟩ := h; rw [h1]; rfl
  | 2, h, _, _ => obtain ⟨y, -, h1⟩ := h; rw [h1]; rfl
  | 3, h, _, _ => rw [show w = _ from h]; rfl
  | 4, h, ht, _ => exact absurd (show true = false from ht) (by decide)
  | 5, h, ht, _ => exact absurd (show true = false from ht) (by decide)
  | 6, h, ht, _ => exact absurd (show true = false from ht) (by decide)
  | 7, h, _, h7 => exact absurd rfl h7
  | 8, h, _, _ => exact absurd h id
  | 9, h, _, _ => exact absurd h id
  | 10, h, _, _ => exact absurd h id
  | 11, h, _, _ => obtain ⟨y, h1, -⟩ := h; rw [h1]; rfl
  | 12, h, _, _ => obtain ⟨y, k, h1, -⟩ := h; rw [h1]; rfl
  | 13, h, _, _ => obtain ⟨y, k, h1, -⟩ := h; rw [h1]; rfl
  | 14, h, _, _ => obtain ⟨y, k, h1, -⟩ := h; rw [h1]; rfl
  | 15, h, _, _ => obtain ⟨y, k, h1, -⟩ := h; rw [h1]; rfl
  | n + 16, h, _, _ => exact absurd h id
def e2_relS (ads r : List Nat) : List ev_V → List Value → Prop
  | [], [] => True
  | v :: st, w :: ws => e2_rel ads r v w ∧ v.1 ≠ 7 ∧ e2_relS ads r st ws
  | _, _ => False
theorem e2_relS.cons {ads r : List Nat} {v : ev_V} {st : List ev_V} {vs : List Value} (h : e2_relS ads r (v :: st) vs) : ∃ w ws, vs = w :: ws ∧ e2_rel ads r v w ∧ v.1 ≠ 7 ∧ e2_relS ads r st ws := by
  cases vs with
  | nil => exact absurd h id
  | cons w ws => exact ⟨w, ws, rfl, h.1, h.2.1, h.2.2⟩
theorem e2_relS.nil {ads r : List Nat} {vs : List Value} (h : e2_relS ads r [] vs) : vs = [] := by
  cases vs with
  | nil => rfl
  | cons w ws => exact absurd h id
theorem e2_relS.mono {ads r r' : List Nat} (hp : ∃ x, r' = r ++ x) : ∀ {st : List ev_V} {vs : List Value}, e2_relS ads r st vs → e2_relS ads r' st vs := by
  intro st
  induction st with
  | nil => intro vs h; rw [h.nil]; exact trivial
  | cons v st ih =>
    intro vs h
    obtain ⟨w, ws, rfl, h1, h7, h2⟩ := h.cons
    exact ⟨h1.mono hp, h7, ih h2⟩
theorem e2_relS.len {ads r : List Nat} : ∀ {st : List ev_V} {vs : List Value}, e2_relS ads r st vs → vs.length = st.length := by
  intro st
  induction st with
  | nil => intro vs h; rw [h.nil]; rfl
  | cons v st ih =>
    intro vs h
    obtain ⟨w, ws, rfl, h1, h7, h2⟩ := h.cons
    simp [ih h2]
theorem e2_relS.append {ads r : List Nat} : ∀ {st st2 : List ev_V} {vs vs2 : List Value}, e2_relS ads r st vs → e2_relS ads r st2 vs2 → e2_relS ads r (st ++ st2) (vs ++ vs2) := by
  intro st
  induction st with
  | nil => intro st2 vs vs2 h h2; rw [h.nil]; exact h2
  | cons v st ih =>
    intro st2 vs vs2 h hh
    obtain ⟨w, ws, rfl, h1, h7, h2⟩ := h.cons
    exact ⟨h1, h7, ih h2 hh⟩
theorem e2_relS.split {ads r : List Nat} : ∀ {q st : List ev_V} {vs : List Value}, e2_relS ads r (q ++ st) vs → ∃ a b, vs = a ++ b ∧ e2_relS ads r q a ∧ e2_relS ads r st b := by
  intro q
  induction q with
  | nil => intro st vs h; exact ⟨[], vs, rfl, trivial, h⟩
  | cons v q ih =>
    intro st vs h
    obtain ⟨w, ws, rfl, h1, h7, h2⟩ := e2_relS.cons h
    obtain ⟨a, b, rfl, h3, h4⟩ := ih h2
    exact ⟨w :: a, b, rfl, ⟨h1, h7, h3⟩, h4⟩
theorem e2_relS.rev {ads r : List Nat} : ∀ {q : List ev_V} {a : List Value}, e2_relS ads r q a → e2_relS ads r q.reverse a.reverse := by
  intro q
  induction q with
  | nil => intro a h; rw [h.nil]; exact trivial
  | cons v q ih =>
    intro a h
    obtain ⟨w, ws, rfl, h1, h7, h2⟩ := h.cons
    rw [List.reverse_cons, List.reverse_cons]
    exact (ih h2).append ⟨h1, h7, trivial⟩
-- the combinators, when they answer
theorem e2_if_t {b k : Bool} (h : e2_if b k = true) : b = true ∧ k = true := by
  cases b
  · exact absurd h (by simp [e2_if])
  · exact ⟨rfl, h⟩
theorem e2_el_t {b k1 k2 : Bool} (h : e2_el b k1 k2 = true) : (b = true ∧ k1 = true) ∨ (b = false ∧ k2 = true) := by
  cases b
  · exact Or.inr ⟨rfl, h⟩
  · exact Or.inl ⟨rfl, h⟩
theorem e2_1_t {st : List ev_V} {k} (h : e2_1 st k = true) : ∃ a s', st = a :: s' ∧ k a s' = true := by
  cases st with
  | nil => exact absurd h (by simp [e2_1])
  | cons a s' => exact ⟨a, s', rfl, h⟩
theorem e2_0_t {st : List ev_V} {k} (h : e2_0 st k = true) : st = [] ∧ k = true := by
  cases st with
  | nil => exact ⟨rfl, h⟩
  | cons a s' => exact absurd h (by simp [e2_0])
theorem e2_2_t {st : List ev_V} {k} (h : e2_2 st k = true) : ∃ a b s', st = a :: b :: s' ∧ k a b s' = true := by
  obtain ⟨a, s1, e1, h1⟩ := e2_1_t h
  obtain ⟨b, s2, e2, h2⟩ := e2_1_t h1
  exact ⟨a, b, s2, by rw [e1, e2], h2⟩
theorem e2_3_t {st : List ev_V} {k} (h : e2_3 st k = true) : ∃ a b c s', st = a :: b :: c :: s' ∧ k a b c s' = true := by
  obtain ⟨a, b, s1, e1, h1⟩ := e2_2_t h
  obtain ⟨c, s2, e2, h2⟩ := e2_1_t h1
  exact ⟨a, b, c, s2, by rw [e1, e2], h2⟩
theorem e2_get_t {α : Type} {l : List α} : ∀ {n : Nat} {k : α → Bool}, e2_get l n k = true → ∃ a, l[n]? = some a ∧ k a = true := by
  induction l with
  | nil => intro n k h; exact absurd h (by simp [e2_get])
  | cons x xs ih =>
    intro n k h
    cases n with
    | zero => exact ⟨x, rfl, h⟩
    | succ m =>
      obtain ⟨a, h1, h2⟩ := ih (n := m) (k := k) h
      exact ⟨a, by rw [List.getElem?_cons_succ]; exact h1, h2⟩
theorem e2_setK_t {β : Type} {l : List β} : ∀ {n : Nat} {v : β} {k : List β → Bool}, e2_setK l n v k = true → n < l.length ∧ k (l.set n v) = true := by
  induction l with
  | nil => intro n v k h; exact absurd h (by simp [e2_setK])
  | cons x xs ih =>
    intro n v k h
    cases n with
    | zero => exact ⟨by simp, h⟩
    | succ m =>
      obtain ⟨h1, h2⟩ := ih (n := m) (k := fun ys => k (x :: ys)) h
      exact ⟨by simpa using h1, h2⟩
theorem e2_snoc_eq {x : e2_B} : ∀ (l : e2_E) (k : e2_E → Bool), e2_snoc l x k = k (l ++ [x]) := by
  intro l
  induction l with
  | nil => intro k; rfl
  | cons y l ih => intro k; exact ih (fun ys => k (y :: ys))
theorem e2_fv_eq (v : ev_V) (k : ev_V → Bool) : e2_fv v k = k v := by
  obtain ⟨t, a, b⟩ := v
  show ev_fN t (fun t => ev_fN a fun a => ev_fN b fun b => k (t, a, b)) = k (t, a, b)
  rw [ev_fN_eq, ev_fN_eq, ev_fN_eq]
theorem e2_cell_t {h : ev_H} {v : ev_V} {k} (hh : e2_cell h v k = true) : v.1 = 2 ∧ v.2.1 < 133 ∧ k v.2.1 (ev_hg h v.2.1).1 (ev_hg h v.2.1).2 = true := by
  obtain ⟨h1, hh⟩ := e2_if_t hh
  obtain ⟨h2, hh⟩ := e2_if_t hh
  rw [ev_tget_k] at hh
  exact ⟨Nat.eq_of_beq_eq_true h1, by simpa using h2, hh⟩
theorem e2_put_t {h : ev_H} {a tag : Nat} {l : List ev_V} {j : Nat} {v : ev_V} {k} (hh : e2_put h a tag l j v k = true) : j < l.length ∧ k (ev_hs h a (tag, l.set j v)) = true := by
  obtain ⟨h1, hh⟩ := e2_setK_t hh
  rw [ev_tset_k] at hh
  exact ⟨h1, hh⟩
theorem e2_sat.get {r : List Nat} {E : e2_E} (h : e2_sat r E) {i : Nat} {b : e2_B} (hb : E[i]? = some b) : ∃ k kb, r[i]? = some k ∧ b.1 ≤ k ∧ k ≤ b.2.1 ∧ r[b.2.2.1]? = some kb ∧ kb + b.2.2.2 ≤ k := h.2 i b hb
theorem e2_rng_t {E : e2_E} {v : ev_V} {k} (hh : e2_rng E v k = true) : e2_isI v.1 = true ∧ ∃ x y, k x y = true ∧ ∀ (ads r : List Nat) (X : Int32), e2_sat r E → e2_rel ads r v (.int X) → x ≤ ev_key X ∧ ev_key X ≤ y := by
  obtain ⟨t, a, b⟩ := v
  have hq := e2_el_t hh
  clear hh
  rcases hq with ⟨h1, hh⟩ | ⟨-, hh⟩
  · have h1 : t = 0 := Nat.eq_of_beq_eq_true h1
    subst h1
    rw [ev_fN_eq] at hh
    refine ⟨rfl, _, _, hh, fun ads r X _ hr => ?_⟩
    have hr : Value.int X = .int (ev_i a) := hr
    have e := ev_key_of a
    rw [← Value.int.inj hr] at e
    exact ⟨Nat.le_of_eq e.symm, Nat.le_of_eq e⟩
  · have hq := e2_el_t hh
    clear hh
    rcases hq with ⟨h2, hh⟩ | ⟨-, hh⟩
    · have h2 : t = 1 := Nat.eq_of_beq_eq_true h2
      subst h2
      obtain ⟨⟨lo, hi, q, d⟩, g1, hh1⟩ := e2_get_t hh
      obtain ⟨g2, hh2⟩ := e2_if_t hh1
      have g2 : 4294967296 ≤ lo + b := Nat.le_of_ble_eq_true g2
      rw [ev_fN_eq, ev_fN_eq] at hh2
      refine ⟨rfl, _, _, hh2, fun ads r X hs hr => ?_⟩
      obtain ⟨y, k', e1, e2, e3⟩ := hr
      have e1 := Value.int.inj e1
      obtain ⟨k1, kb, f1, f2, f3, -, -⟩ := hs.get g1
      have e2 : k' = k1 := Option.some.inj ((show r[a]? = some k' from e2).symm.trans f1)
      have e3 : ev_key y + 4294967296 = k' + b := e3
      have f2 : lo ≤ k1 := f2
      have f3 : k1 ≤ hi := f3
      rw [← e1] at e3
      exact ⟨show lo + b - 4294967296 ≤ _ by omega, show _ ≤ hi + b - 4294967296 by omega⟩
    · obtain ⟨h3, hh1⟩ := e2_if_t hh
      have h3 : t = 11 := Nat.eq_of_beq_eq_true h3
      subst h3
      refine ⟨rfl, a, b, hh1, fun ads r X _ hr => ?_⟩
      obtain ⟨y, e1, e2⟩ := hr
      rw [Value.int.inj e1]
      exact e2
theorem e2_ix_t {E : e2_E} {v : ev_V} {k} (hh : e2_ix E v k = true) : e2_isI v.1 = true ∧ ∃ i j, k i j = true ∧ j < 65536 ∧ ∀ (ads r : List Nat) (X : Int32), e2_sat r E → e2_rel ads r v (.int X) → ∃ n, i ≤ n ∧ n ≤ j ∧ X = ev_i n := by
  obtain ⟨h0, x, y, hh, hb⟩ := e2_rng_t hh
  obtain ⟨h1, hh⟩ := e2_if_t hh
  obtain ⟨h2, hh⟩ := e2_if_t hh
  have h1 : 2147483648 ≤ x := Nat.le_of_ble_eq_true h1
  have h2 : y < 2147549184 := by simpa using h2
  rw [ev_fN_eq, ev_fN_eq] at hh
  refine ⟨h0, _, _, hh, show y - 2147483648 < 65536 by omega, fun ads r X hs hr => ?_⟩
  obtain ⟨g1, g2⟩ := hb ads r X hs hr
  refine ⟨ev_key X - 2147483648, show x - 2147483648 ≤ _ by omega, show _ ≤ y - 2147483648 by omega, ev_key_eqI.mpr ?_⟩
  rw [ev_key_of]
  omega
theorem e2_l (x : Int64) : Int64.ofNat x.toUInt64.toNat = x := by
  exact Int64.toInt_inj.mp (by
    rw [Int64.toInt_ofNat']
    have h : (x.toUInt64.toNat : Int) = x.toBitVec.toNat := by rfl
    rw [h]
    show _ = x.toBitVec.toInt
    rw [BitVec.toInt_eq_toNat_bmod])
theorem e2_nm_t {E : e2_E} {v : ev_V} {k} (hh : e2_nm E v k = true) : ∃ v' E', k v' E' = true ∧ ((v'.1 ≤ 1 ∧ (v.1 = 11 ∨ v.1 = 13)) ∨ (v'.1 = 6 ∧ v.1 = 5) ∨ (v' = v ∧ E' = E ∧ v.1 ≠ 11 ∧ v.1 ≠ 13 ∧ v.1 ≠ 5)) ∧ ∀ (ads r : List Nat) (w : Value), e2_sat r E → e2_rel ads r v w → ∃ r', (∃ x, r' = r ++ x) ∧ e2_sat r' E' ∧ e2_rel ads r' v' w := by
  have ext : ∀ (r : List Nat) (B : e2_B) (k : Nat), e2_sat r E → B.1 ≤ k → k ≤ B.2.1 → (∃ kb, (r ++ [k])[B.2.2.1]? = some kb ∧ kb + B.2.2.2 ≤ k) → e2_sat (r ++ [k]) (E ++ [B]) := by
    intro r B k hs h1 h2 h3
    refine ⟨by rw [List.length_append, List.length_append, hs.1]; rfl, fun i b hi => ?_⟩
    by_cases hl : i < E.length
    · rw [List.getElem?_append_left hl] at hi
      obtain ⟨k1, kb, f1, f2, f3, f4, f5⟩ := hs.get hi
      exact ⟨k1, kb, by rw [List.getElem?_append_left (List.getElem?_eq_some_iff.mp f1).1]; exact f1, f2, f3, by rw [List.getElem?_append_left (List.getElem?_eq_some_iff.mp f4).1]; exact f4, f5⟩
    · have hb := (List.getElem?_eq_some_iff.mp hi).1
      rw [List.length_append] at hb
      have hi2 : i = E.length := by simp at hb; omega
      subst hi2
      rw [List.getElem?_append_right (Nat.le_refl _), Nat.sub_self] at hi
      cases hi
      obtain ⟨kb, g1, g2⟩ := h3
      exact ⟨k, kb, by rw [List.getElem?_append_right (by rw [hs.1]; exact Nat.le_refl _), hs.1, Nat.sub_self]; rfl, h1, h2, g1, g2⟩
  have last : ∀ (r : List Nat) (k : Nat), e2_sat r E → (r ++ [k])[E.length]? = some k := fun r k hs => by rw [List.getElem?_append_right (by rw [hs.1]; exact Nat.le_refl _), hs.1, Nat.sub_self]; rfl
  obtain ⟨t, a, b⟩ := v
  have hq := e2_el_t hh
  clear hh
  rcases hq with ⟨h1, hh⟩ | ⟨h1, hh⟩
  · have h1 : t = 11 := Nat.eq_of_beq_eq_true h1
    subst h1
    rw [ev_fN_eq, e2_snoc_eq] at hh
    refine ⟨_, _, hh, Or.inl ⟨Nat.le_refl 1, Or.inl rfl⟩, fun ads r w hs hr => ?_⟩
    obtain ⟨x, rfl, h2, h3⟩ := hr
    exact ⟨r ++ [ev_key x], ⟨_, rfl⟩, ext r _ _ hs h2 h3 ⟨_, last r _ hs, Nat.le_refl _⟩, x, ev_key x, rfl, last r _ hs, rfl⟩
  · have hq := e2_el_t hh
    clear hh
    rcases hq with ⟨h2, hh⟩ | ⟨h2, hh⟩
    · have h2 : t = 13 := Nat.eq_of_beq_eq_true h2
      subst h2
      obtain ⟨⟨lo, hi, q, d⟩, g1, hh0⟩ := e2_get_t hh
      clear hh
      have hh : ev_fN (Nat.add lo (Nat.div a 8)) (fun lo' => ev_fN (Nat.mod a 8) fun i => ev_fN (Nat.div a 8) fun d => ev_fN E.length fun n => e2_snoc E (lo', b, i, d) fun E' => k (1, n, 4294967296) E') = true := hh0
      rw [ev_fN_eq, ev_fN_eq, ev_fN_eq, ev_fN_eq, e2_snoc_eq] at hh
      refine ⟨_, _, hh, Or.inl ⟨Nat.le_refl 1, Or.inr rfl⟩, fun ads r w hs hr => ?_⟩
      obtain ⟨x, k1, rfl, h3, h4, h5⟩ := hr
      obtain ⟨k2, kb, f1, f2, -, -, -⟩ := hs.get g1
      have h3 : r[a % 8]? = some k1 := h3
      have f1 : k2 = k1 := Option.some.inj ((show r[a % 8]? = some k2 from f1).symm.trans h3)
      have f2 : lo ≤ k2 := f2
      have h4 : k1 + a / 8 ≤ ev_key x := h4
      refine ⟨r ++ [ev_key x], ⟨_, rfl⟩, ext r _ _ hs (show lo + a / 8 ≤ _ by omega) h5 ⟨k1, ?_, h4⟩, x, ev_key x, rfl, last r _ hs, rfl⟩
      show (r ++ [ev_key x])[a % 8]? = some k1
      rw [List.getElem?_append_left (List.getElem?_eq_some_iff.mp h3).1]
      exact h3
    · have hq := e2_el_t hh
      clear hh
      rcases hq with ⟨h3, hh⟩ | ⟨h3, hh⟩
      · have h3 : t = 5 := Nat.eq_of_beq_eq_true h3
        subst h3
        rw [ev_fN_eq, e2_snoc_eq] at hh
        refine ⟨_, _, hh, Or.inr (Or.inl ⟨rfl, rfl⟩), fun ads r w hs hr => ?_⟩
        obtain ⟨x, rfl⟩ := hr
        have hx : x.toUInt64.toNat < 18446744073709551616 := x.toUInt64.toNat_lt
        refine ⟨r ++ [x.toUInt64.toNat], ⟨_, rfl⟩, ext r _ _ hs (Nat.zero_le _) (show _ ≤ 18446744073709551615 by omega) ⟨_, last r _ hs, Nat.le_refl _⟩, x.toUInt64.toNat, last r _ hs, ?_, hx⟩
        rw [e2_l x]
      · refine ⟨_, _, hh, Or.inr (Or.inr ⟨rfl, rfl, ?_, ?_, ?_⟩), fun ads r w hs hr => ⟨r, ⟨[], by simp⟩, hs, hr⟩⟩
        · intro z; have z : t = 11 := z; subst z; exact absurd h1 (by decide)
        · intro z; have z : t = 13 := z; subst z; exact absurd h2 (by decide)
        · intro z; have z : t = 5 := z; subst z; exact absurd h3 (by decide)
theorem e2_sb_t {E : e2_E} {v : ev_V} {lo hi : Nat} {k} (hh : e2_sb E v lo hi k = true) : ∀ (ads r : List Nat) (X : Int32), e2_sat r E → e2_rel ads r v (.int X) → lo ≤ ev_key X → ev_key X ≤ hi → ∃ E', k E' = true ∧ e2_sat r E' := by
  intro ads r X hs hr h1 h2
  rcases e2_el_t hh with ⟨z, -⟩ | ⟨z, hh1⟩
  · have z : hi < lo := by simpa using z
    omega
  · obtain ⟨t, a, c⟩ := v
    clear hh
    rcases e2_el_t hh1 with ⟨t1, hh2⟩ | ⟨-, hh2⟩
    · have t1 : t = 1 := Nat.eq_of_beq_eq_true t1
      clear hh1
      subst t1
      rcases e2_el_t hh2 with ⟨t2, hh3⟩ | ⟨-, hh3⟩
      · have t2 : c ≤ 4294967296 + lo := Nat.le_of_ble_eq_true t2
        obtain ⟨⟨lo0, hi0, q, d⟩, g1, hh4⟩ := e2_get_t hh3
        have hh : ev_fN (e2_sh lo c) (fun lo' => ev_fN (e2_sh hi c) fun hi' => e2_setK E a (lo', hi', q, d) k) = true := hh4
        rw [ev_fN_eq, ev_fN_eq] at hh
        obtain ⟨g2, hh5⟩ := e2_setK_t hh
        refine ⟨_, hh5, by rw [List.length_set]; exact hs.1, fun i b hi' => ?_⟩
        rw [List.getElem?_set] at hi'
        by_cases hia : a = i
        · subst hia
          rw [if_pos rfl, if_pos g2] at hi'
          cases hi'
          obtain ⟨k1, kb, f1, f2, f3, f4, f5⟩ := hs.get g1
          obtain ⟨y, k2, e1, e2, e3⟩ := hr
          have e1 := Value.int.inj e1
          have e2 : k2 = k1 := Option.some.inj ((show r[a]? = some k2 from e2).symm.trans f1)
          have e3 : ev_key y + 4294967296 = k2 + c := e3
          rw [← e1] at e3
          exact ⟨k1, kb, f1, (show e2_sh lo c ≤ k1 by rw [e2_sh_eq]; omega), (show k1 ≤ e2_sh hi c by rw [e2_sh_eq]; omega), f4, f5⟩
        · rw [if_neg hia] at hi'
          exact hs.get hi'
      · exact ⟨E, hh3, hs⟩
    · exact ⟨E, hh2, hs⟩
theorem e2_up_t {E : e2_E} {v : ev_V} {k} (hh : e2_up E v k = true) : (v.1 = 13 ∨ v.1 = 15 ∨ e2_isI v.1 = true) ∧ ∃ x y, k x y = true ∧ ∀ (ads r : List Nat) (X : Int32), e2_sat r E → e2_rel ads r v (.int X) → x ≤ ev_key X ∧ ev_key X ≤ y := by
  obtain ⟨t, a, c⟩ := v
  rcases e2_el_t hh with ⟨h1, hh1⟩ | ⟨-, hh1⟩
  · have h1 : t = 13 := Nat.eq_of_beq_eq_true h1
    clear hh
    subst h1
    obtain ⟨⟨lo, hi, q, d⟩, g1, hh2⟩ := e2_get_t hh1
    have hh2 : ev_fN (Nat.add lo (Nat.div a 8)) (fun x => k x c) = true := hh2
    rw [ev_fN_eq] at hh2
    refine ⟨Or.inl rfl, _, _, hh2, fun ads r X hs hr => ?_⟩
    obtain ⟨y, k1, e1, e2, e3, e4⟩ := hr
    have e1 := Value.int.inj e1
    obtain ⟨k2, kb, f1, f2, -, -, -⟩ := hs.get g1
    have f1 : k2 = k1 := Option.some.inj ((show r[a % 8]? = some k2 from f1).symm.trans (show r[a % 8]? = some k1 from e2))
    have e3 : k1 + a / 8 ≤ ev_key y := e3
    have e4 : ev_key y ≤ c := e4
    have f2 : lo ≤ k2 := f2
    rw [e1]
    exact ⟨show lo + a / 8 ≤ _ by omega, e4⟩
  · rcases e2_el_t hh1 with ⟨h1, hh2⟩ | ⟨-, hh2⟩
    · have h1 : t = 15 := Nat.eq_of_beq_eq_true h1
      clear hh hh1
      subst h1
      obtain ⟨⟨lo, hi, q, d⟩, g1, hh3⟩ := e2_get_t hh2
      have hh3 : e2_el (Nat.blt (Nat.add 2147483648 (Nat.div a 8)) lo) (k 2147483649 c) (k 2147483648 c) = true := hh3
      rcases e2_el_t hh3 with ⟨z, hh4⟩ | ⟨-, hh4⟩
      · have z : 2147483648 + a / 8 < lo := Nat.le_of_ble_eq_true z
        refine ⟨Or.inr (Or.inl rfl), _, _, hh4, fun ads r X hs hr => ?_⟩
        obtain ⟨y, k1, e1, e2, e3, e4, e5⟩ := hr
        have e1 := Value.int.inj e1
        obtain ⟨k2, kb, f1, f2, -, -, -⟩ := hs.get g1
        have f1 : k2 = k1 := Option.some.inj ((show r[a % 8]? = some k2 from f1).symm.trans (show r[a % 8]? = some k1 from e2))
        have f2 : lo ≤ k2 := f2
        have e4 : ev_key y ≤ c := e4
        rw [e1]
        exact ⟨e5 (show 2147483648 + a / 8 < k1 by omega), e4⟩
      · refine ⟨Or.inr (Or.inl rfl), _, _, hh4, fun ads r X hs hr => ?_⟩
        obtain ⟨y, k1, e1, e2, e3, e4, e5⟩ := hr
        have e1 := Value.int.inj e1
        have e4 : ev_key y ≤ c := e4
        rw [e1]
        exact ⟨e3, e4⟩
    · obtain ⟨i1, x, y, h2, hb⟩ := e2_rng_t hh2
      exact ⟨Or.inr (Or.inr i1), x, y, h2, hb⟩
