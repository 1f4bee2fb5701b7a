/-! WHAT THE ENGINE'S VALUES MEAN -/
def ev_key (x : Int32) : Nat := (x.toInt + 2147483648).toNat
theorem ev_key_int (x : Int32) : (ev_key x : Int) = x.toInt + 2147483648 := by
  have h1 := Int32.le_toInt x
  unfold ev_key
  omega
theorem ev_key_lt (x : Int32) : ev_key x ≤ 4294967295 := by
  have h2 := Int32.toInt_lt x
  have := ev_key_int x
  omega
theorem ev_key_of (u : Nat) : ev_key (ev_i u) = (u + 2147483648) % 4294967296 := by
  have h : (ev_i u).toInt = ((u : Int)).bmod 4294967296 := by
    show (Int32.ofNat u).toInt = _
    rw [Int32.toInt_ofNat']
  have h2 := ev_key_int (ev_i u)
  rw [h, Int.bmod_def] at h2
  split at h2 <;> omega
theorem ev_iu (x : Int32) : ev_i (ev_u x) = x := by
  unfold ev_i ev_u
  exact Int32.toInt_inj.mp (by
    rw [Int32.toInt_ofNat']
    have h : (x.toUInt32.toNat : Int) = x.toBitVec.toNat := by rfl
    rw [h]
    show _ = x.toBitVec.toInt
    rw [BitVec.toInt_eq_toNat_bmod])
theorem ev_key_ltI {x y : Int32} : x < y ↔ ev_key x < ev_key y := by
  rw [Int32.lt_iff_toInt_lt]
  have := ev_key_int x
  have := ev_key_int y
  omega
theorem ev_key_leI {x y : Int32} : x ≤ y ↔ ev_key x ≤ ev_key y := by
  rw [Int32.le_iff_toInt_le]
  have := ev_key_int x
  have := ev_key_int y
  omega
theorem ev_key_eqI {x y : Int32} : x = y ↔ ev_key x = ev_key y := by
  rw [← Int32.toInt_inj]
  have := ev_key_int x
  have := ev_key_int y
  omega
theorem ev_key_0 : ev_key 0 = 2147483648 := by decide +kernel
def ev_rel (ads : List Nat) (v : ev_V) (w : Value) : Prop :=
  (v.1 = 0 ∧ w = .int (ev_i v.2.1)) ∨ (v.1 = 1 ∧ ∃ x : Int32, w = .int x ∧ v.2.1 ≤ ev_key x ∧ ev_key x ≤ v.2.2) ∨ (v.1 = 2 ∧ ∃ a, ads[v.2.1]? = some a ∧ w = .ref a) ∨ (v.1 = 3 ∧ w = .null) ∨ (v.1 = 4 ∧ w = .long (Int64.ofNat v.2.1)) ∨ (v.1 = 7 ∧ True)
theorem ev_rel.int {ads : List Nat} {t a b : Nat} {w : Value} (h : ev_rel ads (t, a, b) w) (ht : t ≤ 1) : ∃ x : Int32, w = .int x ∧ (t = 0 → x = ev_i a) ∧ (t = 1 → a ≤ ev_key x ∧ ev_key x ≤ b) := by
  rcases h with ⟨h0, h1⟩ | ⟨h0, x, h1, h2⟩ | ⟨h0, h1⟩ | ⟨h0, h1⟩ | ⟨h0, h1⟩ | ⟨h0, h1⟩
  · exact ⟨_, h1, fun _ => rfl, fun h => absurd (h0.symm.trans h) (by decide)⟩
  · exact ⟨x, h1, fun h => absurd (h0.symm.trans h) (by decide), fun _ => h2⟩
  · exact absurd (show t = 2 from h0) (by omega)
  · exact absurd (show t = 3 from h0) (by omega)
  · exact absurd (show t = 4 from h0) (by omega)
  · exact absurd (show t = 7 from h0) (by omega)
theorem ev_rel.ref {ads : List Nat} {t a b : Nat} {w : Value} (h : ev_rel ads (t, a, b) w) (ht : t = 2) : ∃ q, ads[a]? = some q ∧ w = .ref q := by
  subst ht
  rcases h with ⟨h0, h1⟩ | ⟨h0, h1⟩ | ⟨h0, h1⟩ | ⟨h0, h1⟩ | ⟨h0, h1⟩ | ⟨h0, h1⟩
  · exact absurd (show (2 : Nat) = 0 from h0) (by decide)
  · exact absurd (show (2 : Nat) = 1 from h0) (by decide)
  · exact h1
  · exact absurd (show (2 : Nat) = 3 from h0) (by decide)
  · exact absurd (show (2 : Nat) = 4 from h0) (by decide)
  · exact absurd (show (2 : Nat) = 7 from h0) (by decide)
theorem ev_rel.cat {ads : List Nat} {v : ev_V} {w : Value} (h : ev_rel ads v w) (ht : v.1 ≤ 3) : w.category = 1 := by
  rcases h with ⟨h0, h1⟩ | ⟨h0, x, h1, -⟩ | ⟨h0, q, -, h1⟩ | ⟨h0, h1⟩ | ⟨h0, h1⟩ | ⟨h0, h1⟩
  · rw [h1]; rfl
  · rw [h1]; rfl
  · rw [h1]; rfl
  · rw [h1]; rfl
  · omega
  · omega
theorem ev_rel.mono {ads ads' : List Nat} {v : ev_V} {w : Value} (h : ev_rel ads v w) (hp : ∃ x, ads' = ads ++ x) : ev_rel ads' v w := by
  obtain ⟨x, rfl⟩ := hp
  rcases h with h | h | ⟨h0, q, h1, h2⟩ | h | h | h
  · exact Or.inl h
  · exact Or.inr (Or.inl h)
  · exact Or.inr (Or.inr (Or.inl ⟨h0, q, by rw [List.getElem?_append_left (List.getElem?_eq_some_iff.mp h1).1]; exact h1, h2⟩))
  · exact Or.inr (Or.inr (Or.inr (Or.inl h)))
  · exact Or.inr (Or.inr (Or.inr (Or.inr (Or.inl h))))
  · exact Or.inr (Or.inr (Or.inr (Or.inr (Or.inr h))))
theorem ev_rel.top (ads : List Nat) (x : Int32) : ev_rel ads (1, 0, 4294967295) (.int x) := Or.inr (Or.inl ⟨rfl, x, rfl, Nat.zero_le _, ev_key_lt x⟩)
theorem ev_rel.ex (ads : List Nat) (x : Int32) (b : Nat) : ev_rel ads (0, ev_u x, b) (.int x) := Or.inl ⟨rfl, by rw [ev_iu]⟩
theorem ev_rel.of (ads : List Nat) (u b : Nat) : ev_rel ads (0, u, b) (.int (ev_i u)) := Or.inl ⟨rfl, rfl⟩
theorem ev_rel.at {ads : List Nat} {k a : Nat} (b : Nat) (h : ads[k]? = some a) : ev_rel ads (2, k, b) (.ref a) := Or.inr (Or.inr (Or.inl ⟨rfl, a, h, rfl⟩))
def ev_relS (ads : List Nat) : List ev_V → List Value → Prop
  | [], [] => True
  | v :: st, w :: ws => ev_rel ads v w ∧ ev_relS ads st ws
  | _, _ => False
theorem ev_relS.cons {ads : List Nat} {v : ev_V} {st : List ev_V} {vs : List Value} (h : ev_relS ads (v :: st) vs) : ∃ w ws, vs = w :: ws ∧ ev_rel ads v w ∧ ev_relS ads st ws := by
  cases vs with
  | nil => exact absurd h id
  | cons w ws => exact ⟨w, ws, rfl, h.1, h.2⟩
theorem ev_relS.nil {ads : List Nat} {vs : List Value} (h : ev_relS ads [] vs) : vs = [] := by
  cases vs with
  | nil => rfl
  | cons w ws => exact absurd h id
theorem ev_relS.mono {ads ads' : List Nat} (hp : ∃ x, ads' = ads ++ x) : ∀ {st : List ev_V} {vs : List Value}, ev_relS ads st vs → ev_relS ads' st vs := by
  intro st
  induction st with
  | nil => intro vs h; rw [h.nil]; exact trivial
  | cons v st ih =>
    intro vs h
    obtain ⟨w, ws, rfl, h1, h2⟩ := h.cons
    exact ⟨h1.mono hp, ih h2⟩
theorem ev_relS.len {ads : List Nat} : ∀ {st : List ev_V} {vs : List Value}, ev_relS ads st vs → vs.length = st.length := by
  intro st
  induction st with
  | nil => intro vs h; rw [h.nil]; rfl
  | cons v st ih =>
    intro vs h
    obtain ⟨w, ws, rfl, h1, h2⟩ := h.cons
    simp [ih h2]
theorem ev_relS.append {ads : List Nat} : ∀ {st st2 : List ev_V} {vs vs2 : List Value}, ev_relS ads st vs → ev_relS ads st2 vs2 → ev_relS ads (st ++ st2) (vs ++ vs2) := by
  intro st
  induction st with
  | nil => intro st2 vs vs2 h h2; rw [h.nil]; exact h2
  | cons v st ih =>
    intro st2 vs vs2 h hh
    obtain ⟨w, ws, rfl, h1, h2⟩ := h.cons
    exact ⟨h1, ih h2 hh⟩
-- trees
theorem ev_tget_k {α β : Type} (n : Nat) : ∀ (t : ev_T α n) (i : Nat) (k : α → β), ev_tget n t i k = k (ev_tget n t i id) := by
  induction n with
  | zero => intro t i k; rfl
  | succ n ih =>
    intro t i k
    obtain ⟨l, r, rfl⟩ : ∃ (l r : ev_T α n), t = (show ev_T α (n + 1) from ((l, r) : ev_T α n × ev_T α n)) := ⟨(show ev_T α n × ev_T α n from t).1, (show ev_T α n × ev_T α n from t).2, rfl⟩
    show Bool.rec (motive := fun _ => β) (ev_tget n l (Nat.div i 2) k) (ev_tget n r (Nat.div i 2) k) (Nat.beq (Nat.mod i 2) 1) = k (Bool.rec (motive := fun _ => α) (ev_tget n l (Nat.div i 2) id) (ev_tget n r (Nat.div i 2) id) (Nat.beq (Nat.mod i 2) 1))
    cases Nat.beq (Nat.mod i 2) 1
    · exact ih l _ k
    · exact ih r _ k
theorem ev_tset_k {α : Type} (n : Nat) : ∀ {β : Type} (t : ev_T α n) (i : Nat) (v : α) (k : ev_T α n → β), ev_tset n t i v k = k (ev_tset n t i v id) := by
  induction n with
  | zero => intro β t i v k; rfl
  | succ n ih =>
    intro β t i v k
    obtain ⟨l, r, rfl⟩ : ∃ (l r : ev_T α n), t = (show ev_T α (n + 1) from ((l, r) : ev_T α n × ev_T α n)) := ⟨(show ev_T α n × ev_T α n from t).1, (show ev_T α n × ev_T α n from t).2, rfl⟩
    show Bool.rec (motive := fun _ => β) (ev_tset n l (Nat.div i 2) v (fun z => k ((z, r) : ev_T α n × ev_T α n))) (ev_tset n r (Nat.div i 2) v (fun z => k ((l, z) : ev_T α n × ev_T α n))) (Nat.beq (Nat.mod i 2) 1) = k (Bool.rec (motive := fun _ => ev_T α (n + 1)) (ev_tset n l (Nat.div i 2) v (fun z => ((z, r) : ev_T α n × ev_T α n))) (ev_tset n r (Nat.div i 2) v (fun z => ((l, z) : ev_T α n × ev_T α n))) (Nat.beq (Nat.mod i 2) 1))
    cases Nat.beq (Nat.mod i 2) 1
    · show ev_tset n l (Nat.div i 2) v (fun z => k ((z, r) : ev_T α n × ev_T α n)) = k (ev_tset n l (Nat.div i 2) v (fun z => ((z, r) : ev_T α n × ev_T α n)))
      exact (ih l _ v (fun z => k ((z, r) : ev_T α n × ev_T α n))).trans (congrArg k (ih (β := ev_T α (n + 1)) l _ v (fun z => ((z, r) : ev_T α n × ev_T α n))).symm)
    · show ev_tset n r (Nat.div i 2) v (fun z => k ((l, z) : ev_T α n × ev_T α n)) = k (ev_tset n r (Nat.div i 2) v (fun z => ((l, z) : ev_T α n × ev_T α n)))
      exact (ih r _ v (fun z => k ((l, z) : ev_T α n × ev_T α n))).trans (congrArg k (ih (β := ev_T α (n + 1)) r _ v (fun z => ((l, z) : ev_T α n × ev_T α n))).symm)
noncomputable def ev_hg (h : ev_H) (k : Nat) : ev_C := ev_tget 8 h k id
noncomputable def ev_hs (h : ev_H) (k : Nat) (c : ev_C) : ev_H := ev_tset 8 h k c id
theorem ev_tgs {α : Type} (n : Nat) : ∀ (t : ev_T α n) (i j : Nat) (v : α), i < 2 ^ n → j < 2 ^ n → ev_tget n (ev_tset n t i v id) j id = if j = i then v else ev_tget n t j id := by
  induction n with
  | zero =>
    intro t i j v hi hj
    have h1 : i = 0 := by simpa using hi
    have h2 : j = 0 := by simpa using hj
    subst h1; subst h2
    rfl
  | succ n ih =>
    intro t i j v hi hj
    obtain ⟨l, r, rfl⟩ : ∃ (l r : ev_T α n), t = (show ev_T α (n + 1) from ((l, r) : ev_T α n × ev_T α n)) := ⟨(show ev_T α n × ev_T α n from t).1, (show ev_T α n × ev_T α n from t).2, rfl⟩
    have hi2 : Nat.div i 2 < 2 ^ n := by show i / 2 < _; rw [Nat.pow_succ] at hi; omega
    have hj2 : Nat.div j 2 < 2 ^ n := by show j / 2 < _; rw [Nat.pow_succ] at hj; omega
    have hb : ∀ q : Nat, (Nat.beq (Nat.mod q 2) 1 = true ∧ q % 2 = 1) ∨ (Nat.beq (Nat.mod q 2) 1 = false ∧ q % 2 = 0) := by
      intro q
      rcases Nat.mod_two_eq_zero_or_one q with h | h
      · exact Or.inr ⟨by show Nat.beq (q % 2) 1 = false; rw [h]; rfl, h⟩
      · exact Or.inl ⟨by show Nat.beq (q % 2) 1 = true; rw [h]; rfl, h⟩
    have eS : ev_tset (n + 1) ((l, r) : ev_T α n × ev_T α n) i v id = Bool.rec (motive := fun _ => ev_T α n × ev_T α n) (ev_tset n l (Nat.div i 2) v id, r) (l, ev_tset n r (Nat.div i 2) v id) (Nat.beq (Nat.mod i 2) 1) := by
      show Bool.rec (motive := fun _ => ev_T α n × ev_T α n) (ev_tset n l (Nat.div i 2) v (fun z => ((z, r) : ev_T α n × ev_T α n))) (ev_tset n r (Nat.div i 2) v (fun z => ((l, z) : ev_T α n × ev_T α n))) (Nat.beq (Nat.mod i 2) 1) = _
      rw [ev_tset_k n l, ev_tset_k n r]
    have eG : ∀ (a b : ev_T α n), ev_tget (β := α) (n + 1) ((a, b) : ev_T α n × ev_T α n) j id = Bool.rec (motive := fun _ => α) (ev_tget n a (Nat.div j 2) id) (ev_tget n b (Nat.div j 2) id) (Nat.beq (Nat.mod j 2) 1) := fun a b => rfl
    show ev_tget (β := α) (n + 1) (ev_tset (n + 1) ((l, r) : ev_T α n × ev_T α n) i v id) j id = if j = i then v else ev_tget (β := α) (n + 1) ((l, r) : ev_T α n × ev_T α n) j id
    rw [eS, eG l r]
    rcases hb i with ⟨bi, mi⟩ | ⟨bi, mi⟩ <;> rcases hb j with ⟨bj, mj⟩ | ⟨bj, mj⟩ <;> rw [bi] <;> simp only [] <;> rw [eG, bj] <;> simp only []
    · rw [ih r _ _ v hi2 hj2]
      have : (Nat.div j 2 = Nat.div i 2) ↔ j = i := by show j / 2 = i / 2 ↔ _; omega
      simp only [this]
    · rw [if_neg (by omega)]
    · rw [if_neg (by omega)]
    · rw [ih l _ _ v hi2 hj2]
      have : (Nat.div j 2 = Nat.div i 2) ↔ j = i := by show j / 2 = i / 2 ↔ _; omega
      simp only [this]
theorem ev_hg_hs (h : ev_H) {i j : Nat} (c : ev_C) (hi : i < 256) (hj : j < 256) : ev_hg (ev_hs h i c) j = if j = i then c else ev_hg h j := ev_tgs 8 h i j c hi hj
-- the combinators, when they answer
theorem ev_if_some {b : Bool} {k : ev_R} {r} (h : ev_if b k = some r) : b = true ∧ k = some r := by
  cases b
  · exact absurd h (by simp [ev_if])
  · exact ⟨rfl, h⟩
theorem ev_1_some {st : List ev_V} {k} {r} (h : ev_1 st k = some r) : ∃ a s', st = a :: s' ∧ k a s' = some r := by
  cases st with
  | nil => exact absurd h (by simp [ev_1])
  | cons a s' => exact ⟨a, s', rfl, h⟩
theorem ev_0_some {st : List ev_V} {k} {r} (h : ev_0 st k = some r) : st = [] ∧ k = some r := by
  cases st with
  | nil => exact ⟨rfl, h⟩
  | cons a s' => exact absurd h (by simp [ev_0])
theorem ev_2_some {st : List ev_V} {k} {r} (h : ev_2 st k = some r) : ∃ a b s', st = a :: b :: s' ∧ k a b s' = some r := by
  obtain ⟨a, s1, e1, h1⟩ := ev_1_some h
  obtain ⟨b, s2, e2, h2⟩ := ev_1_some h1
  exact ⟨a, b, s2, by rw [e1, e2], h2⟩
theorem ev_3_some {st : List ev_V} {k} {r} (h : ev_3 st k = some r) : ∃ a b c s', st = a :: b :: c :: s' ∧ k a b c s' = some r := by
  obtain ⟨a, b, s1, e1, h1⟩ := ev_2_some h
  obtain ⟨c, s2, e2, h2⟩ := ev_1_some h1
  exact ⟨a, b, c, s2, by rw [e1, e2], h2⟩
theorem ev_get_some {α : Type} {l : List α} : ∀ {n : Nat} {k : α → ev_R} {r}, ev_get l n k = some r → ∃ a, l[n]? = some a ∧ k a = some r := by
  induction l with
  | nil => intro n k r h; exact absurd h (by simp [ev_get])
  | cons x xs ih =>
    intro n k r h
    cases n with
    | zero => exact ⟨x, rfl, h⟩
    | succ m =>
      obtain ⟨a, h1, h2⟩ := ih (n := m) (k := k) h
      exact ⟨a, by rw [List.getElem?_cons_succ]; exact h1, h2⟩
theorem ev_setK_some {β : Type} {l : List β} : ∀ {n : Nat} {v : β} {k : List β → ev_R} {r}, ev_setK l n v k = some r → n < l.length ∧ k (l.set n v) = some r := by
  induction l with
  | nil => intro n v k r h; exact absurd h (by simp [ev_setK])
  | cons x xs ih =>
    intro n v k r h
    cases n with
    | zero => exact ⟨by simp, h⟩
    | succ m =>
      obtain ⟨h1, h2⟩ := ih (n := m) (k := fun ys => k (x :: ys)) h
      exact ⟨by simpa using h1, h2⟩
theorem ev_cell_some {nc : Nat} {h : ev_H} {v : ev_V} {k} {r} (hh : ev_cell nc h v k = some r) : v.1 = 2 ∧ v.2.1 < nc ∧ k v.2.1 (ev_hg h v.2.1).1 (ev_hg h v.2.1).2 = some r := by
  obtain ⟨h1, hh⟩ := ev_if_some hh
  obtain ⟨h2, hh⟩ := ev_if_some hh
  rw [ev_tget_k] at hh
  exact ⟨Nat.eq_of_beq_eq_true h1, by simpa using h2, hh⟩
theorem ev_nat_some {v : ev_V} {k} {r} (hh : ev_nat v k = some r) : v.1 = 0 ∧ v.2.1 < 65536 ∧ k v.2.1 = some r := by
  obtain ⟨h1, hh⟩ := ev_if_some hh
  obtain ⟨h2, hh⟩ := ev_if_some hh
  exact ⟨Nat.eq_of_beq_eq_true h1, by simpa using h2, hh⟩
theorem ev_put_some {h : ev_H} {a tag : Nat} {l : List ev_V} {j : Nat} {v : ev_V} {k} {r} (hh : ev_put h a tag l j v k = some r) : j < l.length ∧ k (ev_hs h a (tag, l.set j v)) = some r := by
  obtain ⟨h1, hh⟩ := ev_setK_some hh
  rw [ev_tset_k] at hh
  exact ⟨h1, hh⟩
theorem ev_bin_some {o : Int32 → Int32 → Int32} {a b : ev_V} {k} {r} (hh : ev_bin o a b k = some r) : a.1 ≤ 1 ∧ b.1 ≤ 1 ∧ ∃ c, k c = some r ∧ ∀ (ads : List Nat) (x y : Int32), ev_rel ads a (.int x) → ev_rel ads b (.int y) → ev_rel ads c (.int (o x y)) := by
  obtain ⟨t1, u1, w1⟩ := a
  obtain ⟨t2, u2, w2⟩ := b
  unfold ev_bin ev_p at hh
  simp only [] at hh
  by_cases hz : Nat.beq (Nat.add t1 t2) 0 = true
  · rw [hz] at hh
    simp only [ev_fN_eq] at hh
    have hz' : t1 + t2 = 0 := Nat.eq_of_beq_eq_true hz
    refine ⟨by show t1 ≤ 1; omega, by show t2 ≤ 1; omega, _, hh, fun ads x y hx hy => ?_⟩
    obtain ⟨x', ex, h0, -⟩ := hx.int (by omega)
    obtain ⟨y', ey, g0, -⟩ := hy.int (by omega)
    cases ex; cases ey
    rw [h0 (by omega), g0 (by omega)]
    exact ev_rel.ex ads _ 0
  · rw [Bool.eq_false_iff.mpr hz] at hh
    simp only [] at hh
    obtain ⟨h1, hh⟩ := ev_if_some hh
    obtain ⟨h2, hh⟩ := ev_if_some hh
    exact ⟨by simpa using h1, by simpa using h2, _, hh, fun ads x y _ _ => ev_rel.top ads _⟩
theorem ev_un_some {o : Int32 → Int32} {a : ev_V} {k} {r} (hh : ev_un o a k = some r) : a.1 ≤ 1 ∧ ∃ c, c.1 ≤ 1 ∧ k c = some r ∧ ∀ (ads : List Nat) (x : Int32), ev_rel ads a (.int x) → ev_rel ads c (.int (o x)) := by
  obtain ⟨t1, u1, w1⟩ := a
  unfold ev_un ev_p at hh
  simp only [] at hh
  by_cases hz : Nat.beq t1 0 = true
  · rw [hz] at hh
    simp only [ev_fN_eq] at hh
    have hz' : t1 = 0 := Nat.eq_of_beq_eq_true hz
    refine ⟨by show t1 ≤ 1; omega, (0, ev_u (o (ev_i u1)), 0), Nat.zero_le 1, hh, fun ads x hx => ?_⟩
    obtain ⟨x', ex, h0, -⟩ := hx.int (by omega)
    cases ex
    rw [h0 (by omega)]
    exact ev_rel.ex ads _ 0
  · rw [Bool.eq_false_iff.mpr hz] at hh
    simp only [] at hh
    obtain ⟨h1, hh⟩ := ev_if_some hh
    exact ⟨by simpa using h1, (1, 0, 4294967295), Nat.le_refl 1, hh, fun ads x _ => ev_rel.top ads _⟩
theorem ev_rng_some {a : ev_V} {k} {r} (hh : ev_rng a k = some r) : a.1 ≤ 1 ∧ ∃ x y, k x y = some r ∧ ∀ (ads : List Nat) (z : Int32), ev_rel ads a (.int z) → x ≤ ev_key z ∧ ev_key z ≤ y := by
  obtain ⟨t1, u1, w1⟩ := a
  unfold ev_rng ev_p at hh
  simp only [] at hh
  by_cases hz : Nat.beq t1 0 = true
  · rw [hz] at hh
    simp only [ev_fN_eq] at hh
    have hz' : t1 = 0 := Nat.eq_of_beq_eq_true hz
    refine ⟨by show t1 ≤ 1; omega, _, _, hh, fun ads x hx => ?_⟩
    obtain ⟨x', ex, h0, -⟩ := hx.int (by omega)
    cases ex
    have e := ev_key_of u1
    rw [← h0 (by omega)] at e
    exact ⟨Nat.le_of_eq e.symm, Nat.le_of_eq e⟩
  · rw [Bool.eq_false_iff.mpr hz] at hh
    simp only [] at hh
    obtain ⟨h1, hh⟩ := ev_if_some hh
    have h1' : t1 = 1 := Nat.eq_of_beq_eq_true h1
    refine ⟨by show t1 ≤ 1; omega, _, _, hh, fun ads x hx => ?_⟩
    obtain ⟨x', ex, -, h0⟩ := hx.int (by omega)
    cases ex
    exact h0 h1'
theorem ev_lt_some {a b c d : Nat} {yes no : ev_R} {r} (h : ev_lt a b c d yes no = some r) : (b < c ∧ yes = some r) ∨ (d ≤ a ∧ no = some r) := by
  unfold ev_lt at h
  by_cases hz : Nat.blt b c = true
  · rw [hz] at h
    exact Or.inl ⟨by simpa using hz, h⟩
  · rw [Bool.eq_false_iff.mpr hz] at h
    obtain ⟨h1, h⟩ := ev_if_some h
    exact Or.inr ⟨by simpa using h1, h⟩
theorem ev_eq_some {a b c d : Nat} {yes no : ev_R} {r} (h : ev_eq a b c d yes no = some r) : (a = b ∧ c = d ∧ a = c ∧ yes = some r) ∨ ((b < c ∨ d < a) ∧ no = some r) := by
  unfold ev_eq at h
  by_cases hz : Nat.blt b c = true
  · rw [hz] at h
    exact Or.inr ⟨Or.inl (by simpa using hz), h⟩
  · rw [Bool.eq_false_iff.mpr hz] at h
    simp only [] at h
    by_cases hy : Nat.blt d a = true
    · rw [hy] at h
      exact Or.inr ⟨Or.inr (by simpa using hy), h⟩
    · rw [Bool.eq_false_iff.mpr hy] at h
      obtain ⟨h1, h⟩ := ev_if_some h
      obtain ⟨h2, h⟩ := ev_if_some h
      obtain ⟨h3, h⟩ := ev_if_some h
      exact Or.inl ⟨Nat.eq_of_beq_eq_true h1, Nat.eq_of_beq_eq_true h2, Nat.eq_of_beq_eq_true h3, h⟩
def ev_holds (c : ClassFile.Cond) (x y : Int32) : Prop := match c with
  | .eq => x = y
  | .ne => ¬ x = y
  | .lt => x < y
  | .ge => y ≤ x
  | .gt => y < x
  | .le => x ≤ y
theorem ev_cmp_some {c : ClassFile.Cond} {a b d e : Nat} {yes no : ev_R} {r} (h : ev_cmp c a b d e yes no = some r) {x y : Int32} (hx : a ≤ ev_key x ∧ ev_key x ≤ b) (hy : d ≤ ev_key y ∧ ev_key y ≤ e) : (ev_holds c x y ∧ yes = some r) ∨ (¬ ev_holds c x y ∧ no = some r) := by
  cases c <;> simp only [ev_cmp, ev_holds] at h ⊢
  · rcases ev_eq_some h with ⟨h1, h2, h3, h⟩ | ⟨h1, h⟩
    · exact Or.inl ⟨ev_key_eqI.mpr (by omega), h⟩
    · exact Or.inr ⟨fun z => by have := ev_key_eqI.mp z; omega, h⟩
  · rcases ev_eq_some h with ⟨h1, h2, h3, h⟩ | ⟨h1, h⟩
    · exact Or.inr ⟨fun z => z (ev_key_eqI.mpr (by omega)), h⟩
    · exact Or.inl ⟨fun z => by have := ev_key_eqI.mp z; omega, h⟩
  · rcases ev_lt_some h with ⟨h1, h⟩ | ⟨h1, h⟩
    · exact Or.inl ⟨ev_key_ltI.mpr (by omega), h⟩
    · exact Or.inr ⟨fun z => by have := ev_key_ltI.mp z; omega, h⟩
  · rcases ev_lt_some h with ⟨h1, h⟩ | ⟨h1, h⟩
    · exact Or.inr ⟨fun z => by have := ev_key_leI.mp z; omega, h⟩
    · exact Or.inl ⟨ev_key_leI.mpr (by omega), h⟩
  · rcases ev_lt_some h with ⟨h1, h⟩ | ⟨h1, h⟩
    · exact Or.inl ⟨ev_key_ltI.mpr (by omega), h⟩
    · exact Or.inr ⟨fun z => by have := ev_key_ltI.mp z; omega, h⟩
  · rcases ev_lt_some h with ⟨h1, h⟩ | ⟨h1, h⟩
    · exact Or.inr ⟨fun z => by have := ev_key_leI.mp z; omega, h⟩
    · exact Or.inl ⟨ev_key_leI.mpr (by omega), h⟩
