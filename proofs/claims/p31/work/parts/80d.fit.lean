/-! WHAT FITS A WEAK HEAP: parts and elements as integers -/
def lw_el (c : ev_C) (j : Nat) : ev_V := if c.1 < 53 then c.2.getD j (9, 0, 0) else c.2.getD 1 (9, 0, 0)
def lw_fx (ads : List Nat) (T : Nat) (v : ev_V) (z : Int) : Prop := e2_rel ads [lw_T T] v (.int (Int32.ofInt z))
/-- a row's elements fit its cell -/
def lw_fk (ads : List Nat) (T : Nat) (c : ev_C) (n : Nat) (r : Int → Int) : Prop := ∀ j : Nat, j < n → lw_fx ads T (lw_el c j) (r (j : Int))
theorem lw_key {z : Int} (h : -2147483648 ≤ z ∧ z < 2147483648) : (ev_key (Int32.ofInt z) : Int) = z + 2147483648 := by rw [ev_key_int, show (Int32.ofInt z).toInt = z from mw_nn h]
theorem lw_fx.i {ads : List Nat} {T lo hi : Nat} {z : Int} (h1 : (lo : Int) ≤ z + 2147483648) (h2 : z + 2147483648 ≤ (hi : Int)) (h3 : hi < 4294967296) : lw_fx ads T (11, lo, hi) z := by
  have := lw_key (z := z) (by omega)
  exact ⟨_, rfl, by show lo ≤ ev_key (Int32.ofInt z); omega, by show ev_key (Int32.ofInt z) ≤ hi; omega⟩
theorem lw_fx.t {ads : List Nat} {T : Nat} {z : Int} : lw_fx ads T (11, 0, 4294967295) z := ⟨_, rfl, Nat.zero_le _, ev_key_lt _⟩
theorem lw_fx.x {ads : List Nat} {T n : Nat} {z : Int} (h : z = (n : Int)) : lw_fx ads T (0, n, 0) z := by
  subst h
  show Value.int (Int32.ofInt (n : Int)) = .int (ev_i n)
  rw [mo_ev]
theorem lw_fx.T {ads : List Nat} {T : Nat} {z : Int} (h : z = (T : Int)) (hT : T < 2147483648) : lw_fx ads T (1, 0, 4294967296) z := by
  have := lw_key (z := z) (by omega)
  exact ⟨_, lw_T T, rfl, rfl, by show ev_key (Int32.ofInt z) + 4294967296 = lw_T T + 4294967296; unfold lw_T; omega⟩
theorem lw_fx.o {ads : List Nat} {T lo hi : Nat} {z : Int} (h : lw_fx ads T (11, lo, hi) z) (hz : -2147483648 ≤ z ∧ z < 2147483648) : (lo : Int) ≤ z + 2147483648 ∧ z + 2147483648 ≤ (hi : Int) := by
  obtain ⟨x, hx, h1, h2⟩ := h
  injection hx with hx
  subst hx
  have := lw_key hz
  have h1 : lo ≤ ev_key (Int32.ofInt z) := h1
  have h2 : ev_key (Int32.ofInt z) ≤ hi := h2
  omega
theorem lw_fx.ox {ads : List Nat} {T n : Nat} {z : Int} (h : lw_fx ads T (0, n, 0) z) (hz : -2147483648 ≤ z ∧ z < 2147483648) (hn : n < 2147483648) : z = (n : Int) := by
  have h : Value.int (Int32.ofInt z) = .int (ev_i n) := h
  injection h with h
  rw [← mo_ev] at h
  exact (mw_eq hz (by omega)).mp h
theorem lw_fx.oT {ads : List Nat} {T : Nat} {z : Int} (h : lw_fx ads T (1, 0, 4294967296) z) (hz : -2147483648 ≤ z ∧ z < 2147483648) : z = (T : Int) := by
  obtain ⟨x, k, hx, hk, h1⟩ := h
  injection hx with hx
  subst hx
  have hk : some (lw_T T) = some k := hk
  cases hk
  have := lw_key hz
  have h1 : ev_key (Int32.ofInt z) + 4294967296 = lw_T T + 4294967296 := h1
  unfold lw_T at h1
  omega
theorem lw_F_r (ws : va_W) (j : Nat) : -2147483648 ≤ lw_F ws j ∧ lw_F ws j < 2147483648 := by
  unfold lw_F
  split
  · split
    · exact mw_rI _
    · omega
  · omega
theorem lw_R_r (ws : va_W) (k : Nat) (i : Int) : -2147483648 ≤ lw_R ws k i ∧ lw_R ws k i < 2147483648 := by
  unfold lw_R
  split
  · exact mw_rI _
  · omega
theorem lw_N_r (ws : va_W) : lw_N ws < 18446744073709551616 := by
  unfold lw_N
  split
  · split
    · rename_i x _
      have := x.toUInt64.toNat_lt
      omega
    · omega
  · omega
theorem lw_el_of {cA : e2_cA} {ads r : List Nat} {c : ev_C} {t n : Nat} {e : va_E} {f : Nat → Int32} (hr : e2_relC cA ads r c.1 c.2 e) (he : e = .inl (cA.1 t, n, .inl f)) (hc : c.1 < 53 ∧ c.2.length = n ∨ 54 ≤ c.1 ∧ c.1 ≤ 56) (h50 : 50 ≤ c.1) : ∀ j, j < n → e2_rel ads r (lw_el c j) (.int (f j)) := by
  obtain ⟨tag, l⟩ := c
  have h50 : 50 ≤ tag := h50
  intro j hj
  rcases hc with ⟨h1, h2⟩ | ⟨h1, h2⟩
  · have h1 : tag < 53 := h1
    have h2 : l.length = n := h2
    obtain ⟨g, q1, q2⟩ := hr.arr h50 (by show tag ≤ 52; omega)
    rw [he] at q1
    have q1 : (Sum.inl (cA.1 t, n, Sum.inl f) : va_E) = Sum.inl (cA.1 (tag - 50), l.length, Sum.inl g) := q1
    have hfg : f = g := by
      injection q1 with q1
      injection q1 with _ q1
      injection q1 with _ q1
      injection q1
    subst hfg
    obtain ⟨v, hv⟩ : ∃ v, l[j]? = some v := ⟨_, List.getElem?_eq_getElem (by omega)⟩
    have : lw_el (tag, l) j = v := by
      show (if tag < 53 then l.getD j (9, 0, 0) else l.getD 1 (9, 0, 0)) = v
      rw [if_pos h1, List.getD_eq_getElem?_getD, hv]
      rfl
    rw [this]
    exact q2 j v hv
  · have h1 : 54 ≤ tag := h1
    have h2 : tag ≤ 56 := h2
    obtain ⟨N, b', lo, hi, g, q0, q1, q2⟩ := hr.uni h1 h2
    rw [he] at q1
    have hfg : n = N ∧ f = g := by
      injection q1 with q1
      injection q1 with _ q1
      injection q1 with z q1
      injection q1 with q1
      exact ⟨z, q1⟩
    obtain ⟨rfl, rfl⟩ := hfg
    have q0 : l = [(0, n, b'), (11, lo, hi)] := q0
    subst q0
    have : lw_el (tag, [(0, n, b'), (11, lo, hi)]) j = (11, lo, hi) := by
      show (if tag < 53 then _ else ([(0, n, b'), (11, lo, hi)] : List ev_V).getD 1 (9, 0, 0)) = _
      rw [if_neg (by omega)]
      rfl
    rw [this]
    exact ⟨f j, rfl, (q2 j hj).1, (q2 j hj).2⟩
/-- back: elements that fit -/
theorem lw_el_to {cA : e2_cA} {ads r : List Nat} {c : ev_C} {t n : Nat} {f : Nat → Int32} (h : ∀ j, j < n → e2_rel ads r (lw_el c j) (.int (f j))) (hc : (c.1 < 53 ∧ c.1 = t ∧ c.2.length = n) ∨ (c.1 = t + 4 ∧ c.1 ≤ 56 ∧ ∃ b lo hi, c.2 = [(0, n, b), (11, lo, hi)])) (h50 : 50 ≤ t) : e2_relC cA ads r c.1 c.2 (.inl (cA.1 (t - 50), n, .inl f)) := by
  obtain ⟨tag, l⟩ := c
  rcases hc with ⟨h1, h2, h3⟩ | ⟨h1, h2, b, lo, hi, h3⟩
  · have h1 : tag < 53 := h1
    have h2 : tag = t := h2
    have h3 : l.length = n := h3
    subst h2
    subst h3
    refine Or.inr (Or.inl ⟨h50, by show tag ≤ 52; omega, f, rfl, fun j v hj => ?_⟩)
    have := h j (List.getElem?_eq_some_iff.mp hj).1
    have e : lw_el (tag, l) j = v := by
      show (if tag < 53 then l.getD j (9, 0, 0) else l.getD 1 (9, 0, 0)) = v
      have hj : l[j]? = some v := hj
      rw [if_pos h1, List.getD_eq_getElem?_getD, hj]
      rfl
    rw [e] at this
    exact this
  · have h1 : tag = t + 4 := h1
    have h2 : tag ≤ 56 := h2
    have h3 : l = [(0, n, b), (11, lo, hi)] := h3
    subst h1
    subst h3
    refine Or.inr (Or.inr (Or.inr (Or.inl ⟨by show 54 ≤ t + 4; omega, h2, n, b, lo, hi, f, rfl, by show _ = Sum.inl (cA.1 (t + 4 - 54), n, Sum.inl f); rw [show t + 4 - 54 = t - 50 by omega], fun j hj => ?_⟩)))
    have := h j hj
    have e : lw_el (t + 4, [(0, n, b), (11, lo, hi)]) j = (11, lo, hi) := by
      show (if t + 4 < 53 then _ else ([(0, n, b), (11, lo, hi)] : List ev_V).getD 1 (9, 0, 0)) = _
      rw [if_neg (by omega)]
      rfl
    rw [e] at this
    obtain ⟨x, hx, y1, y2⟩ := this
    injection hx with hx
    rw [hx]
    exact ⟨y1, y2⟩
