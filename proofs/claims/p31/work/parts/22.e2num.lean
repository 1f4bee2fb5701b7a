/-! THE RULES OF THE OPERATIONS ARE SOUND -/
theorem e2_key_u (Z : Int32) : ev_key Z = (ev_u Z + 2147483648) % 4294967296 ∧ ev_u Z < 4294967296 := by
  refine ⟨?_, Z.toUInt32.toNat_lt⟩
  have h := ev_key_of (ev_u Z)
  rw [ev_iu] at h
  exact h
theorem e2_ofkey {X : Int32} {x : Nat} (h : ev_key X = x) : ev_i (Nat.add x 2147483648) = X := by
  apply ev_key_eqI.mpr
  have h1 := ev_key_of (x + 2147483648)
  have h2 := ev_key_lt X
  have h3 : ev_key (ev_i (x + 2147483648)) = ev_key X := by omega
  exact h3
def e2_tro (o : Int32 → Int32 → Int32) (tr : ev_V → ev_V → Nat → Nat → Nat → Nat → ev_V) : Prop := ∀ (a b : ev_V) (x y z w : Nat), e2_isI (tr a b x y z w).1 = true ∧ ∀ (ads r : List Nat) (X Y : Int32), e2_rel ads r a (.int X) → e2_rel ads r b (.int Y) → x ≤ ev_key X → ev_key X ≤ y → z ≤ ev_key Y → ev_key Y ≤ w → e2_rel ads r (tr a b x y z w) (.int (o X Y))
/-- the same where the divisor isn't 0 -/
def e2_trd (o : Int32 → Int32 → Int32) (tr : ev_V → ev_V → Nat → Nat → Nat → Nat → ev_V) : Prop := ∀ (a b : ev_V) (x y z w : Nat), e2_isI (tr a b x y z w).1 = true ∧ ∀ (ads r : List Nat) (X Y : Int32), x ≤ ev_key X → ev_key X ≤ y → z ≤ ev_key Y → ev_key Y ≤ w → e2_rel ads r (tr a b x y z w) (.int (o X Y))
theorem e2_trd.tro {o : Int32 → Int32 → Int32} {tr : ev_V → ev_V → Nat → Nat → Nat → Nat → ev_V} (h : e2_trd o tr) : e2_tro o tr := fun a b x y z w => ⟨(h a b x y z w).1, fun ads r X Y _ _ => (h a b x y z w).2 ads r X Y⟩
theorem e2_bin_t {o : Int32 → Int32 → Int32} {tr : ev_V → ev_V → Nat → Nat → Nat → Nat → ev_V} (ht : e2_tro o tr) {E : e2_E} {a b : ev_V} {k} (hh : e2_bin o tr E a b k = true) : e2_isI a.1 = true ∧ e2_isI b.1 = true ∧ ∃ c, k c = true ∧ e2_isI c.1 = true ∧ ∀ (ads r : List Nat) (X Y : Int32), e2_sat r E → e2_rel ads r a (.int X) → e2_rel ads r b (.int Y) → e2_rel ads r c (.int (o X Y)) := by
  obtain ⟨h1, x, y, hh1, hb1⟩ := e2_rng_t hh
  obtain ⟨h2, z, w, hh2, hb2⟩ := e2_rng_t hh1
  have gen : e2_fv (tr a b x y z w) k = true → ∃ c, k c = true ∧ e2_isI c.1 = true ∧ ∀ (ads r : List Nat) (X Y : Int32), e2_sat r E → e2_rel ads r a (.int X) → e2_rel ads r b (.int Y) → e2_rel ads r c (.int (o X Y)) := by
    intro g
    rw [e2_fv_eq] at g
    refine ⟨_, g, (ht a b x y z w).1, fun ads r X Y hs ha hb => ?_⟩
    obtain ⟨p1, p2⟩ := hb1 ads r X hs ha
    obtain ⟨p3, p4⟩ := hb2 ads r Y hs hb
    exact (ht a b x y z w).2 ads r X Y ha hb p1 p2 p3 p4
  refine ⟨h1, h2, ?_⟩
  rcases e2_el_t hh2 with ⟨q1, hh3⟩ | ⟨-, hh3⟩
  · rcases e2_el_t hh3 with ⟨q2, hh4⟩ | ⟨-, hh4⟩
    · have q1 : x = y := Nat.eq_of_beq_eq_true q1
      have q2 : z = w := Nat.eq_of_beq_eq_true q2
      rw [ev_fN_eq] at hh4
      refine ⟨_, hh4, rfl, fun ads r X Y hs ha hb => ?_⟩
      obtain ⟨p1, p2⟩ := hb1 ads r X hs ha
      obtain ⟨p3, p4⟩ := hb2 ads r Y hs hb
      rw [e2_ofkey (show ev_key X = x by omega), e2_ofkey (show ev_key Y = z by omega)]
      exact e2_rel.ex ads r _ 0
    · exact gen hh4
  · exact gen hh3
theorem e2_un_t {o : Int32 → Int32} {tr : Nat → Nat → ev_V} (ht : ∀ x y, e2_isI (tr x y).1 = true ∧ ∀ (ads r : List Nat) (X : Int32), x ≤ ev_key X → ev_key X ≤ y → e2_rel ads r (tr x y) (.int (o X))) {E : e2_E} {a : ev_V} {k} (hh : e2_un o tr E a k = true) : e2_isI a.1 = true ∧ ∃ c, k c = true ∧ e2_isI c.1 = true ∧ ∀ (ads r : List Nat) (X : Int32), e2_sat r E → e2_rel ads r a (.int X) → e2_rel ads r c (.int (o X)) := by
  obtain ⟨h1, x, y, hh1, hb1⟩ := e2_rng_t hh
  refine ⟨h1, ?_⟩
  rcases e2_el_t hh1 with ⟨q1, hh3⟩ | ⟨-, hh3⟩
  · have q1 : x = y := Nat.eq_of_beq_eq_true q1
    rw [ev_fN_eq] at hh3
    refine ⟨_, hh3, rfl, fun ads r X hs ha => ?_⟩
    obtain ⟨p1, p2⟩ := hb1 ads r X hs ha
    rw [e2_ofkey (show ev_key X = x by omega)]
    exact e2_rel.ex ads r _ 0
  · rw [e2_fv_eq] at hh3
    refine ⟨_, hh3, (ht x y).1, fun ads r X hs ha => ?_⟩
    obtain ⟨p1, p2⟩ := hb1 ads r X hs ha
    exact (ht x y).2 ads r X p1 p2
theorem e2_ch_p {P : ev_V → Prop} {b : Bool} {v w : ev_V} (h1 : b = true → P v) (h2 : P w) : P (e2_ch b v w) := by
  cases b
  · exact h2
  · exact h1 rfl
theorem tr_top_ok (o : Int32 → Int32 → Int32) : e2_trd o tr_top := fun a b x y z w => ⟨rfl, fun ads r X Y _ _ _ _ => e2_rel.top ads r _⟩
theorem e2_key_add {X Y : Int32} (h1 : 2147483648 ≤ ev_key X + ev_key Y) (h2 : ev_key X + ev_key Y < 6442450944) : ev_key (X + Y) + 2147483648 = ev_key X + ev_key Y := by
  have a := ev_key_int X
  have b := ev_key_int Y
  have c := ev_key_int (X + Y)
  rw [Int32.toInt_add, Int.bmod_def] at c
  split at c <;> omega
theorem e2_key_sub {X Y : Int32} (h1 : ev_key Y ≤ ev_key X + 2147483648) (h2 : ev_key X + 2147483648 < 4294967296 + ev_key Y) : ev_key (X - Y) + ev_key Y = ev_key X + 2147483648 := by
  have a := ev_key_int X
  have b := ev_key_int Y
  have c := ev_key_int (X - Y)
  rw [Int32.toInt_sub, Int.bmod_def] at c
  split at c <;> omega
theorem tr_add_ok : e2_tro eb_add tr_add := by
  intro a b x y z w
  have two : ∀ {p q : Bool}, (p && q) = true → p = true ∧ q = true := fun h => by simpa using h
  refine ⟨?_, fun ads r X Y ha hb h1 h2 h3 h4 => ?_⟩
  · refine e2_ch_p (P := fun v => e2_isI v.1 = true) (fun _ => ?_) rfl
    refine e2_ch_p (P := fun v => e2_isI v.1 = true) (fun _ => rfl) ?_
    exact e2_ch_p (P := fun v => e2_isI v.1 = true) (fun _ => rfl) rfl
  · refine e2_ch_p (P := fun v => e2_rel ads r v (.int (eb_add X Y))) (fun hc => ?_) (e2_rel.top ads r _)
    obtain ⟨c1, c2⟩ := two hc
    have c1 : 2147483648 ≤ x + z := Nat.le_of_ble_eq_true c1
    have c2 : y + w < 6442450944 := by simpa using c2
    have hk : ev_key (X + Y) + 2147483648 = ev_key X + ev_key Y := e2_key_add (by omega) (by omega)
    refine e2_ch_p (P := fun v => e2_rel ads r v (.int (eb_add X Y))) (fun hc => ?_) (e2_ch_p (P := fun v => e2_rel ads r v (.int (eb_add X Y))) (fun hc => ?_) ?_)
    · obtain ⟨t1, t2⟩ := two hc
      obtain ⟨t2, t3⟩ := two t2
      have t1 : a.1 = 1 := Nat.eq_of_beq_eq_true t1
      have t2 : z = w := Nat.eq_of_beq_eq_true t2
      have t3 : 2147483648 ≤ a.2.2 + z := Nat.le_of_ble_eq_true t3
      obtain ⟨t, i, c⟩ := a
      have t1 : t = 1 := t1
      subst t1
      obtain ⟨X', k, e1, e2, e3⟩ := ha
      have e1 := Value.int.inj e1
      have e3 : ev_key X' + 4294967296 = k + c := e3
      rw [← e1] at e3
      have t3 : 2147483648 ≤ c + z := t3
      refine ⟨X + Y, k, rfl, e2, ?_⟩
      show ev_key (X + Y) + 4294967296 = k + (c + z - 2147483648)
      omega
    · obtain ⟨t1, t2⟩ := two hc
      obtain ⟨t2, t3⟩ := two t2
      have t1 : b.1 = 1 := Nat.eq_of_beq_eq_true t1
      have t2 : x = y := Nat.eq_of_beq_eq_true t2
      have t3 : 2147483648 ≤ b.2.2 + x := Nat.le_of_ble_eq_true t3
      obtain ⟨t, i, c⟩ := b
      have t1 : t = 1 := t1
      subst t1
      obtain ⟨Y', k, e1, e2, e3⟩ := hb
      have e1 := Value.int.inj e1
      have e3 : ev_key Y' + 4294967296 = k + c := e3
      rw [← e1] at e3
      have t3 : 2147483648 ≤ c + x := t3
      refine ⟨X + Y, k, rfl, e2, ?_⟩
      show ev_key (X + Y) + 4294967296 = k + (c + x - 2147483648)
      omega
    · exact ⟨X + Y, rfl, show x + z - 2147483648 ≤ ev_key (X + Y) by omega, show ev_key (X + Y) ≤ y + w - 2147483648 by omega⟩
theorem tr_sub_ok : e2_tro eb_sub tr_sub := by
  intro a b x y z w
  have two : ∀ {p q : Bool}, (p && q) = true → p = true ∧ q = true := fun h => by simpa using h
  refine ⟨?_, fun ads r X Y ha hb h1 h2 h3 h4 => ?_⟩
  · refine e2_ch_p (P := fun v => e2_isI v.1 = true) (fun _ => ?_) rfl
    exact e2_ch_p (P := fun v => e2_isI v.1 = true) (fun _ => rfl) rfl
  · refine e2_ch_p (P := fun v => e2_rel ads r v (.int (eb_sub X Y))) (fun hc => ?_) (e2_rel.top ads r _)
    obtain ⟨c1, c2⟩ := two hc
    have c1 : w ≤ x + 2147483648 := Nat.le_of_ble_eq_true c1
    have c2 : y + 2147483648 < 4294967296 + z := Nat.le_of_ble_eq_true c2
    have hk : ev_key (X - Y) + ev_key Y = ev_key X + 2147483648 := e2_key_sub (by omega) (by omega)
    refine e2_ch_p (P := fun v => e2_rel ads r v (.int (eb_sub X Y))) (fun hc => ?_) ?_
    · obtain ⟨t1, t2⟩ := two hc
      obtain ⟨t2, t3⟩ := two t2
      have t1 : a.1 = 1 := Nat.eq_of_beq_eq_true t1
      have t2 : z = w := Nat.eq_of_beq_eq_true t2
      have t3 : z ≤ a.2.2 + 2147483648 := Nat.le_of_ble_eq_true t3
      obtain ⟨t, i, c⟩ := a
      have t1 : t = 1 := t1
      subst t1
      obtain ⟨X', k, e1, e2, e3⟩ := ha
      have e1 := Value.int.inj e1
      have e3 : ev_key X' + 4294967296 = k + c := e3
      rw [← e1] at e3
      have t3 : z ≤ c + 2147483648 := t3
      refine ⟨X - Y, k, rfl, e2, ?_⟩
      show ev_key (X - Y) + 4294967296 = k + (c + 2147483648 - z)
      omega
    · exact ⟨X - Y, rfl, show x + 2147483648 - w ≤ ev_key (X - Y) by omega, show ev_key (X - Y) ≤ y + 2147483648 - z by omega⟩
theorem e2_nn {X : Int32} (h : 2147483648 ≤ ev_key X) : X.toInt = ((ev_key X - 2147483648 : Nat) : Int) ∧ ev_u X + 2147483648 = ev_key X := by
  have a := ev_key_int X
  have b := e2_key_u X
  have c := ev_key_lt X
  constructor <;> omega
theorem e2_far_ok {X : Int32} {x y : Nat} (h1 : x ≤ ev_key X) (h2 : ev_key X ≤ y) : X.toInt.natAbs ≤ e2_far x y := by
  have a := ev_key_int X
  have b1 : 2147483648 - x ≤ e2_far x y := Nat.le_max_left _ _
  have b2 : y - 2147483648 ≤ e2_far x y := Nat.le_max_right _ _
  omega
theorem e2_mul_far (ads r : List Nat) {X Y : Int32} {x y z w : Nat} (h1 : x ≤ ev_key X) (h2 : ev_key X ≤ y) (h3 : z ≤ ev_key Y) (h4 : ev_key Y ≤ w) (hc : Nat.blt (Nat.mul (e2_far x y) (e2_far z w)) 2147483648 = true) : e2_rel ads r (11, Nat.sub 2147483648 (Nat.mul (e2_far x y) (e2_far z w)), Nat.add 2147483648 (Nat.mul (e2_far x y) (e2_far z w))) (.int (eb_mul X Y)) := by
  have hc : e2_far x y * e2_far z w < 2147483648 := Nat.le_of_ble_eq_true hc
  have m1 : X.toInt.natAbs * Y.toInt.natAbs ≤ e2_far x y * e2_far z w := Nat.mul_le_mul (e2_far_ok h1 h2) (e2_far_ok h3 h4)
  rw [← Int.natAbs_mul] at m1
  obtain ⟨n, hn⟩ : ∃ n, n = e2_far x y * e2_far z w := ⟨_, rfl⟩
  obtain ⟨q, hq⟩ : ∃ q, q = X.toInt * Y.toInt := ⟨_, rfl⟩
  rw [← hn] at hc m1
  rw [← hq] at m1
  have hk := ev_key_int (X * Y)
  rw [Int32.toInt_mul, ← hq] at hk
  have hb : q.bmod (2 ^ 32) = q := by
    rw [Int.bmod_def]
    split <;> omega
  rw [hb] at hk
  refine ⟨X * Y, rfl, ?_, ?_⟩
  · show 2147483648 - e2_far x y * e2_far z w ≤ ev_key (X * Y)
    rw [← hn]
    omega
  · show ev_key (X * Y) ≤ 2147483648 + e2_far x y * e2_far z w
    rw [← hn]
    omega
theorem tr_mul_ok : e2_trd eb_mul tr_mul := by
  intro a b x y z w
  refine ⟨e2_ch_p (P := fun v => e2_isI v.1 = true) (fun _ => rfl) (e2_ch_p (P := fun v => e2_isI v.1 = true) (fun _ => rfl) rfl), fun ads r X Y h1 h2 h3 h4 => ?_⟩
  refine e2_ch_p (P := fun v => e2_rel ads r v (.int (eb_mul X Y))) (fun hc => ?_) (e2_ch_p (P := fun v => e2_rel ads r v (.int (eb_mul X Y))) (fun hc => e2_mul_far ads r h1 h2 h3 h4 hc) (e2_rel.top ads r _))
  simp only [Bool.and_eq_true] at hc
  obtain ⟨c1, c2, c3⟩ := hc
  have c1 : 2147483648 ≤ x := Nat.le_of_ble_eq_true c1
  have c2 : 2147483648 ≤ z := Nat.le_of_ble_eq_true c2
  have c3 : (y - 2147483648) * (w - 2147483648) < 2147483648 := Nat.le_of_ble_eq_true c3
  obtain ⟨p1, -⟩ := e2_nn (X := X) (by omega)
  obtain ⟨q1, -⟩ := e2_nn (X := Y) (by omega)
  have m1 : (ev_key X - 2147483648) * (ev_key Y - 2147483648) ≤ (y - 2147483648) * (w - 2147483648) := Nat.mul_le_mul (by omega) (by omega)
  have m2 : (x - 2147483648) * (z - 2147483648) ≤ (ev_key X - 2147483648) * (ev_key Y - 2147483648) := Nat.mul_le_mul (by omega) (by omega)
  have hk := ev_key_int (X * Y)
  rw [Int32.toInt_mul, p1, q1, ← Int.natCast_mul] at hk
  obtain ⟨n, hn0⟩ : ∃ n, n = (ev_key X - 2147483648) * (ev_key Y - 2147483648) := ⟨_, rfl⟩
  rw [← hn0] at m1 m2 hk
  have hn : ((n : Int)).bmod (2 ^ 32) = n := by
    rw [Int.bmod_def]
    split <;> omega
  rw [hn] at hk
  have hk2 : ev_key (X * Y) = 2147483648 + n := by omega
  refine ⟨X * Y, rfl, ?_, ?_⟩
  · show 2147483648 + (x - 2147483648) * (z - 2147483648) ≤ ev_key (X * Y)
    rw [hk2]
    exact Nat.add_le_add_left m2 _
  · show ev_key (X * Y) ≤ 2147483648 + (y - 2147483648) * (w - 2147483648)
    rw [hk2]
    exact Nat.add_le_add_left m1 _
theorem e2_u_and (X Y : Int32) : ev_u (X &&& Y) = ev_u X &&& ev_u Y := by
  show (X &&& Y).toUInt32.toNat = _
  rw [show (X &&& Y).toUInt32 = X.toUInt32 &&& Y.toUInt32 from rfl, UInt32.toNat_and]
  rfl
theorem e2_u_or (X Y : Int32) : ev_u (X ||| Y) = ev_u X ||| ev_u Y := by
  show (X ||| Y).toUInt32.toNat = _
  rw [show (X ||| Y).toUInt32 = X.toUInt32 ||| Y.toUInt32 from rfl, UInt32.toNat_or]
  rfl
theorem tr_and_ok : e2_trd eb_and tr_and := by
  intro a b x y z w
  have kR : ∀ {X Y : Int32}, 2147483648 ≤ ev_key Y → 2147483648 ≤ ev_key (X &&& Y) ∧ ev_key (X &&& Y) ≤ ev_key Y := by
    intro X Y h
    obtain ⟨-, e1⟩ := e2_nn h
    have e2 := e2_key_u (X &&& Y)
    have e3 := ev_key_lt Y
    rw [e2_u_and] at e2
    have e4 : ev_u X &&& ev_u Y ≤ ev_u Y := Nat.and_le_right
    generalize ev_u X &&& ev_u Y = n at *
    omega
  have kL : ∀ {X Y : Int32}, 2147483648 ≤ ev_key X → 2147483648 ≤ ev_key (X &&& Y) ∧ ev_key (X &&& Y) ≤ ev_key X := by
    intro X Y h
    obtain ⟨-, e1⟩ := e2_nn h
    have e2 := e2_key_u (X &&& Y)
    have e3 := ev_key_lt X
    rw [e2_u_and] at e2
    have e4 : ev_u X &&& ev_u Y ≤ ev_u X := Nat.and_le_left
    generalize ev_u X &&& ev_u Y = n at *
    omega
  refine ⟨?_, fun ads r X Y h1 h2 h3 h4 => ?_⟩
  · refine e2_ch_p (P := fun v => e2_isI v.1 = true) (fun _ => ?_) ?_
    · exact e2_ch_p (P := fun v => e2_isI v.1 = true) (fun _ => rfl) rfl
    · exact e2_ch_p (P := fun v => e2_isI v.1 = true) (fun _ => rfl) rfl
  · refine e2_ch_p (P := fun v => e2_rel ads r v (.int (eb_and X Y))) (fun hc => ?_) ?_
    · have hc : 2147483648 ≤ z := Nat.le_of_ble_eq_true hc
      have g := kR (X := X) (Y := Y) (by omega)
      refine e2_ch_p (P := fun v => e2_rel ads r v (.int (eb_and X Y))) (fun hc2 => ?_) ?_
      · simp only [Bool.and_eq_true] at hc2
        have c1 : 2147483648 ≤ x := Nat.le_of_ble_eq_true hc2.1
        have g2 := kL (X := X) (Y := Y) (by omega)
        exact ⟨X &&& Y, rfl, g.1, show ev_key (X &&& Y) ≤ y by omega⟩
      · exact ⟨X &&& Y, rfl, g.1, show ev_key (X &&& Y) ≤ w by omega⟩
    · refine e2_ch_p (P := fun v => e2_rel ads r v (.int (eb_and X Y))) (fun hc => ?_) (e2_rel.top ads r _)
      have hc : 2147483648 ≤ x := Nat.le_of_ble_eq_true hc
      have g := kL (X := X) (Y := Y) (by omega)
      exact ⟨X &&& Y, rfl, g.1, show ev_key (X &&& Y) ≤ y by omega⟩
theorem tr_or_ok : e2_trd eb_or tr_or := by
  intro a b x y z w
  refine ⟨e2_ch_p (P := fun v => e2_isI v.1 = true) (fun _ => rfl) rfl, fun ads r X Y h1 h2 h3 h4 => ?_⟩
  refine e2_ch_p (P := fun v => e2_rel ads r v (.int (eb_or X Y))) (fun hc => ?_) (e2_rel.top ads r _)
  simp only [Bool.and_eq_true] at hc
  have c1 : 2147483648 ≤ x := Nat.le_of_ble_eq_true hc.1
  have c2 : 2147483648 ≤ z := Nat.le_of_ble_eq_true hc.2
  obtain ⟨-, p1⟩ := e2_nn (X := X) (by omega)
  obtain ⟨-, q1⟩ := e2_nn (X := Y) (by omega)
  have m1 : y ≤ max y w := Nat.le_max_left _ _
  have m2 : w ≤ max y w := Nat.le_max_right _ _
  have hm : (max y w - 2147483648) < 2 ^ ((max y w - 2147483648).log2 + 1) := Nat.lt_log2_self
  have b1 := ev_key_lt X
  have b2 := ev_key_lt Y
  have hb : ev_u X ||| ev_u Y < 2 ^ ((max y w - 2147483648).log2 + 1) := Nat.or_lt_two_pow (by omega) (by omega)
  have hb31 : ev_u X ||| ev_u Y < 2 ^ 31 := Nat.or_lt_two_pow (by omega) (by omega)
  have e := e2_key_u (X ||| Y)
  rw [e2_u_or] at e
  generalize ev_u X ||| ev_u Y = n at *
  generalize hP : 2 ^ ((max y w - 2147483648).log2 + 1) = P at *
  refine ⟨X ||| Y, rfl, show 2147483648 ≤ ev_key (X ||| Y) by omega, ?_⟩
  show ev_key (X ||| Y) ≤ 2147483648 + e2_pw (max y w - 2147483648) - 1
  rw [show e2_pw (max y w - 2147483648) = P from hP]
  omega
theorem e2_pos {Y : Int32} (h : 2147483648 < ev_key Y) : Y ≠ -1 := by
  intro z
  rw [z] at h
  exact absurd h (by decide +kernel)
theorem tr_div_ok : e2_trd eb_div tr_div := by
  intro a b x y z w
  refine ⟨e2_ch_p (P := fun v => e2_isI v.1 = true) (fun _ => rfl) rfl, fun ads r X Y h1 h2 h3 h4 => ?_⟩
  refine e2_ch_p (P := fun v => e2_rel ads r v (.int (eb_div X Y))) (fun hc => ?_) (e2_rel.top ads r _)
  simp only [Bool.and_eq_true] at hc
  have c1 : 2147483648 ≤ x := Nat.le_of_ble_eq_true hc.1
  have c2 : 2147483648 < z := Nat.le_of_ble_eq_true hc.2
  obtain ⟨p1, -⟩ := e2_nn (X := X) (by omega)
  obtain ⟨q1, -⟩ := e2_nn (X := Y) (by omega)
  have hk := ev_key_int (X / Y)
  rw [Int32.toInt_div_of_ne_right _ _ (e2_pos (by omega)), p1, q1, ← Int.ofNat_tdiv] at hk
  have hd : (ev_key X - 2147483648) / (ev_key Y - 2147483648) ≤ (y - 2147483648) / (z - 2147483648) := Nat.div_le_div (by omega) (by omega) (by omega)
  obtain ⟨n, hn0⟩ : ∃ n, n = (ev_key X - 2147483648) / (ev_key Y - 2147483648) := ⟨_, rfl⟩
  rw [← hn0] at hd hk
  refine ⟨X / Y, rfl, show 2147483648 ≤ ev_key (X / Y) by omega, ?_⟩
  show ev_key (X / Y) ≤ 2147483648 + (y - 2147483648) / (z - 2147483648)
  obtain ⟨m, hm0⟩ : ∃ m, m = (y - 2147483648) / (z - 2147483648) := ⟨_, rfl⟩
  rw [← hm0] at hd ⊢
  omega
theorem tr_rem_ok : e2_trd eb_rem tr_rem := by
  intro a b x y z w
  have key : ∀ {X Y : Int32}, 2147483648 < ev_key Y → ev_key X ≤ 4294967295 → (eb_rem X Y).toInt = X.toInt.tmod Y.toInt := by
    intro X Y h _
    have e1 : (eb_rem X Y).toInt = (X.toInt - ((X / Y).toInt * Y.toInt).bmod (2 ^ 32)).bmod (2 ^ 32) := by
      show (X - X / Y * Y).toInt = _
      rw [Int32.toInt_sub, Int32.toInt_mul]
    rw [Int32.toInt_div_of_ne_right _ _ (e2_pos h)] at e1
    have e2 := Int.mul_tdiv_add_tmod X.toInt Y.toInt
    rw [Int.mul_comm] at e2
    have hy := ev_key_int Y
    have hy2 := ev_key_lt Y
    have t1 := Int.tmod_lt_of_pos X.toInt (b := Y.toInt) (by omega)
    have t2 := Int.lt_tmod_of_pos X.toInt (b := Y.toInt) (by omega)
    obtain ⟨c, hc⟩ : ∃ c, c = X.toInt.tdiv Y.toInt * Y.toInt := ⟨_, rfl⟩
    rw [← hc] at e1 e2
    obtain ⟨t, ht⟩ : ∃ t, t = X.toInt.tmod Y.toInt := ⟨_, rfl⟩
    rw [← ht] at e2 t1 t2 ⊢
    rw [e1, Int.bmod_def, Int.bmod_def]
    split <;> split <;> omega
  refine ⟨?_, fun ads r X Y h1 h2 h3 h4 => ?_⟩
  · refine e2_ch_p (P := fun v => e2_isI v.1 = true) (fun _ => ?_) rfl
    refine e2_ch_p (P := fun v => e2_isI v.1 = true) (fun _ => ?_) rfl
    exact e2_ch_p (P := fun v => e2_isI v.1 = true) (fun _ => rfl) rfl
  · refine e2_ch_p (P := fun v => e2_rel ads r v (.int (eb_rem X Y))) (fun hc => ?_) (e2_rel.top ads r _)
    have c1 : 2147483648 < z := Nat.le_of_ble_eq_true hc
    have hk := key (X := X) (Y := Y) (by omega) (ev_key_lt X)
    have g := ev_key_int (eb_rem X Y)
    have hy := ev_key_int Y
    have hx := ev_key_int X
    have t1 := Int.tmod_lt_of_pos X.toInt (b := Y.toInt) (by omega)
    have t2 := Int.lt_tmod_of_pos X.toInt (b := Y.toInt) (by omega)
    have t3 := Int.natAbs_tmod X.toInt Y.toInt
    have t4 : X.toInt.natAbs % Y.toInt.natAbs ≤ X.toInt.natAbs := Nat.mod_le _ _
    rw [hk] at g
    have t5 : 0 ≤ X.toInt → 0 ≤ X.toInt.tmod Y.toInt := fun q => Int.tmod_nonneg _ q
    obtain ⟨t, ht⟩ : ∃ t, t = X.toInt.tmod Y.toInt := ⟨_, rfl⟩
    rw [← ht] at t1 t2 t3 t5 g
    obtain ⟨n, hn⟩ : ∃ n, n = X.toInt.natAbs % Y.toInt.natAbs := ⟨_, rfl⟩
    rw [← hn] at t3 t4
    refine e2_ch_p (P := fun v => e2_rel ads r v (.int (eb_rem X Y))) (fun hc => ?_) ?_
    · have c2 : 2147483648 ≤ x := Nat.le_of_ble_eq_true hc
      have t5 := t5 (by omega)
      refine e2_ch_p (P := fun v => e2_rel ads r v (.int (eb_rem X Y))) (fun _ => ?_) ?_
      · exact ⟨_, rfl, show 2147483648 ≤ ev_key (eb_rem X Y) by omega, show ev_key (eb_rem X Y) ≤ y by omega⟩
      · exact ⟨_, rfl, show 2147483648 ≤ ev_key (eb_rem X Y) by omega, show ev_key (eb_rem X Y) ≤ w - 1 by omega⟩
    · exact ⟨_, rfl, show 4294967297 - w ≤ ev_key (eb_rem X Y) by omega, show ev_key (eb_rem X Y) ≤ w - 1 by omega⟩
theorem tr_neg_ok : ∀ x y, e2_isI (tr_neg x y).1 = true ∧ ∀ (ads r : List Nat) (X : Int32), x ≤ ev_key X → ev_key X ≤ y → e2_rel ads r (tr_neg x y) (.int (eb_neg X)) := by
  intro x y
  refine ⟨e2_ch_p (P := fun v => e2_isI v.1 = true) (fun _ => rfl) rfl, fun ads r X h1 h2 => ?_⟩
  refine e2_ch_p (P := fun v => e2_rel ads r v (.int (eb_neg X))) (fun hc => ?_) (e2_rel.top ads r _)
  have c1 : 1 ≤ x := Nat.le_of_ble_eq_true hc
  have a := ev_key_int X
  have c := ev_key_int (-X)
  have b := ev_key_lt X
  rw [Int32.toInt_neg, Int.bmod_def] at c
  have hk : ev_key (-X) + ev_key X = 4294967296 := by split at c <;> omega
  exact ⟨-X, rfl, show 4294967296 - y ≤ ev_key (-X) by omega, show ev_key (-X) ≤ 4294967296 - x by omega⟩
theorem tr_i2b_ok : ∀ x y, e2_isI (tr_i2b x y).1 = true ∧ ∀ (ads r : List Nat) (X : Int32), x ≤ ev_key X → ev_key X ≤ y → e2_rel ads r (tr_i2b x y) (.int (eb_i2b X)) := by
  intro x y
  refine ⟨rfl, fun ads r X h1 h2 => ?_⟩
  have c := ev_key_int (eb_i2b X)
  have e : (eb_i2b X).toInt = X.toInt8.toInt := Int8.toInt_toInt32 _
  rw [e] at c
  have l1 := Int8.le_toInt X.toInt8
  have l2 := Int8.toInt_lt X.toInt8
  exact ⟨eb_i2b X, rfl, show 2147483520 ≤ ev_key (eb_i2b X) by omega, show ev_key (eb_i2b X) ≤ 2147483775 by omega⟩
theorem tr_min_ok : e2_trd eb_min tr_min := by
  intro a b x y z w
  refine ⟨rfl, fun ads r X Y h1 h2 h3 h4 => ?_⟩
  have g1 : min x z ≤ x := Nat.min_le_left _ _
  have g2 : min x z ≤ z := Nat.min_le_right _ _
  by_cases hz : Y < X
  · have hk := ev_key_ltI.mp hz
    refine ⟨Y, by show Value.int (eb_min X Y) = _; rw [show eb_min X Y = Y from if_pos hz], show min x z ≤ ev_key Y by omega, show ev_key Y ≤ min y w from Nat.le_min.mpr ⟨by omega, by omega⟩⟩
  · have hk : ¬ ev_key Y < ev_key X := fun q => hz (ev_key_ltI.mpr q)
    refine ⟨X, by show Value.int (eb_min X Y) = _; rw [show eb_min X Y = X from if_neg hz], show min x z ≤ ev_key X by omega, show ev_key X ≤ min y w from Nat.le_min.mpr ⟨by omega, by omega⟩⟩
def eb_max (x y : Int32) : Int32 := if x < y then y else x
theorem tr_max_ok : e2_trd eb_max tr_max := by
  intro a b x y z w
  refine ⟨rfl, fun ads r X Y h1 h2 h3 h4 => ?_⟩
  have g1 : y ≤ max y w := Nat.le_max_left _ _
  have g2 : w ≤ max y w := Nat.le_max_right _ _
  by_cases hz : X < Y
  · have hk := ev_key_ltI.mp hz
    refine ⟨Y, by show Value.int (eb_max X Y) = _; rw [show eb_max X Y = Y from if_pos hz], show max x z ≤ ev_key Y from Nat.max_le.mpr ⟨by omega, by omega⟩, show ev_key Y ≤ max y w by omega⟩
  · have hk : ¬ ev_key X < ev_key Y := fun q => hz (ev_key_ltI.mpr q)
    refine ⟨X, by show Value.int (eb_max X Y) = _; rw [show eb_max X Y = X from if_neg hz], show max x z ≤ ev_key X from Nat.max_le.mpr ⟨by omega, by omega⟩, show ev_key X ≤ max y w by omega⟩
theorem e2_mx_eq (a b : Nat) : e2_mx a b = max a b := by
  unfold e2_mx
  cases h : Nat.ble a b with
  | true => exact (Nat.max_eq_right (Nat.le_of_ble_eq_true h)).symm
  | false =>
    have h2 : ¬ a ≤ b := fun z => by rw [Nat.ble_eq_true_of_le z] at h; cases h
    show a = max a b
    exact (Nat.max_eq_left (by omega)).symm
theorem e2_mn_eq (a b : Nat) : e2_mn a b = min a b := by
  unfold e2_mn
  cases h : Nat.ble a b with
  | true => exact (Nat.min_eq_left (Nat.le_of_ble_eq_true h)).symm
  | false =>
    have h2 : ¬ a ≤ b := fun z => by rw [Nat.ble_eq_true_of_le z] at h; cases h
    show b = min a b
    exact (Nat.min_eq_right (by omega)).symm
theorem e2_ref_t {c : ClassFile.Cond} {a b : ev_V} {x y z w : Nat} {E : e2_E} {k} (hh : e2_ref c a b x y z w E k = true) {ads r : List Nat} {X Y : Int32} (hs : e2_sat r E) (ha : e2_rel ads r a (.int X)) (hb : e2_rel ads r b (.int Y)) (h1 : x ≤ ev_key X) (h2 : ev_key X ≤ y) (h3 : z ≤ ev_key Y) (h4 : ev_key Y ≤ w) (hc : ev_holds c X Y) : ∃ E', k E' = true ∧ e2_sat r E' := by
  cases c <;> simp only [e2_ref, ev_holds, e2_mx_eq, e2_mn_eq] at hh hc
  · have q := ev_key_eqI.mp hc
    obtain ⟨E1, g1, g2⟩ := e2_sb_t hh ads r X hs ha (Nat.max_le.mpr ⟨by omega, by omega⟩) (Nat.le_min.mpr ⟨by omega, by omega⟩)
    exact e2_sb_t g1 ads r Y g2 hb (Nat.max_le.mpr ⟨by omega, by omega⟩) (Nat.le_min.mpr ⟨by omega, by omega⟩)
  · have q : ev_key X ≠ ev_key Y := fun e => hc (ev_key_eqI.mpr e)
    rcases e2_el_t hh with ⟨t1, hh1⟩ | ⟨-, hh1⟩
    · have t1 : z = w := Nat.eq_of_beq_eq_true t1
      rcases e2_el_t hh1 with ⟨t2, hh2⟩ | ⟨-, hh2⟩
      · have t2 : x = z := Nat.eq_of_beq_eq_true t2
        exact e2_sb_t hh2 ads r X hs ha (show x + 1 ≤ _ by omega) h2
      · rcases e2_el_t hh2 with ⟨t3, hh3⟩ | ⟨-, hh3⟩
        · have t3 : y = z := Nat.eq_of_beq_eq_true t3
          exact e2_sb_t hh3 ads r X hs ha h1 (show _ ≤ y - 1 by omega)
        · rcases e2_el_t hh3 with ⟨t4, hh4⟩ | ⟨-, hh4⟩
          · have t4 : z = 2147483648 := Nat.eq_of_beq_eq_true t4
            obtain ⟨y1, y2⟩ := e2_if_t hh4
            by_cases hq : ev_key X ≤ 2147483647
            · exact e2_sb_t y1 ads r X hs ha h1 hq
            · exact e2_sb_t y2 ads r X hs ha (by omega) h2
          · exact ⟨E, hh4, hs⟩
    · exact ⟨E, hh1, hs⟩
  · have q := ev_key_ltI.mp hc
    obtain ⟨E1, g1, g2⟩ := e2_sb_t hh ads r X hs ha h1 (Nat.le_min.mpr ⟨by omega, show _ ≤ w - 1 by omega⟩)
    exact e2_sb_t g1 ads r Y g2 hb (Nat.max_le.mpr ⟨by omega, show x + 1 ≤ _ by omega⟩) h4
  · have q := ev_key_leI.mp hc
    obtain ⟨E1, g1, g2⟩ := e2_sb_t hh ads r X hs ha (Nat.max_le.mpr ⟨by omega, by omega⟩) h2
    exact e2_sb_t g1 ads r Y g2 hb h3 (Nat.le_min.mpr ⟨by omega, by omega⟩)
  · have q := ev_key_ltI.mp hc
    obtain ⟨E1, g1, g2⟩ := e2_sb_t hh ads r X hs ha (Nat.max_le.mpr ⟨by omega, show z + 1 ≤ _ by omega⟩) h2
    exact e2_sb_t g1 ads r Y g2 hb h3 (Nat.le_min.mpr ⟨by omega, show _ ≤ y - 1 by omega⟩)
  · have q := ev_key_leI.mp hc
    obtain ⟨E1, g1, g2⟩ := e2_sb_t hh ads r X hs ha h1 (Nat.le_min.mpr ⟨by omega, by omega⟩)
    exact e2_sb_t g1 ads r Y g2 hb (Nat.max_le.mpr ⟨by omega, by omega⟩) h4
theorem e2_neg_holds {c : ClassFile.Cond} {X Y : Int32} (h : ¬ ev_holds c X Y) : ev_holds (e2_neg c) X Y := by
  cases c <;> simp only [ev_holds, e2_neg] at h ⊢
  · exact h
  · exact Classical.not_not.mp h
  · exact ev_key_leI.mpr (Nat.le_of_not_lt fun q => h (ev_key_ltI.mpr q))
  · exact ev_key_ltI.mpr (Nat.lt_of_not_le fun q => h (ev_key_leI.mpr q))
  · exact ev_key_leI.mpr (Nat.le_of_not_lt fun q => h (ev_key_ltI.mpr q))
  · exact ev_key_ltI.mpr (Nat.lt_of_not_le fun q => h (ev_key_leI.mpr q))
theorem e2_dl_t {x y z w : Nat} {k1 k0 k2 : Bool} (h : e2_dl x y z w k1 k0 k2 = true) : (y < z ∧ k1 = true) ∨ (w ≤ x ∧ k0 = true) ∨ k2 = true := by
  rcases e2_el_t h with ⟨t1, g⟩ | ⟨-, g⟩
  · exact Or.inl ⟨Nat.le_of_ble_eq_true t1, g⟩
  · rcases e2_el_t g with ⟨t1, g⟩ | ⟨-, g⟩
    · exact Or.inr (Or.inl ⟨Nat.le_of_ble_eq_true t1, g⟩)
    · exact Or.inr (Or.inr g)
theorem e2_de_t {x y z w : Nat} {k1 k0 k2 : Bool} (h : e2_de x y z w k1 k0 k2 = true) : (x = y ∧ z = w ∧ ¬ y < z ∧ ¬ w < x ∧ k1 = true) ∨ ((y < z ∨ w < x) ∧ k0 = true) ∨ k2 = true := by
  rcases e2_el_t h with ⟨t1, g⟩ | ⟨t1, g⟩
  · exact Or.inr (Or.inl ⟨Or.inl (Nat.le_of_ble_eq_true t1), g⟩)
  · have n1 : ¬ y < z := fun q => by rw [show Nat.blt y z = true from Nat.ble_eq_true_of_le q] at t1; cases t1
    rcases e2_el_t g with ⟨t2, g⟩ | ⟨t2, g⟩
    · exact Or.inr (Or.inl ⟨Or.inr (Nat.le_of_ble_eq_true t2), g⟩)
    · have n2 : ¬ w < x := fun q => by rw [show Nat.blt w x = true from Nat.ble_eq_true_of_le q] at t2; cases t2
      rcases e2_el_t g with ⟨t3, g⟩ | ⟨-, g⟩
      · rcases e2_el_t g with ⟨t4, g⟩ | ⟨-, g⟩
        · exact Or.inl ⟨Nat.eq_of_beq_eq_true t3, Nat.eq_of_beq_eq_true t4, n1, n2, g⟩
        · exact Or.inr (Or.inr g)
      · exact Or.inr (Or.inr g)
theorem e2_dc_t {c : ClassFile.Cond} {x y z w : Nat} {k1 k0 k2 : Bool} (h : e2_dc c x y z w k1 k0 k2 = true) {X Y : Int32} (h1 : x ≤ ev_key X) (h2 : ev_key X ≤ y) (h3 : z ≤ ev_key Y) (h4 : ev_key Y ≤ w) : (ev_holds c X Y ∧ k1 = true) ∨ (¬ ev_holds c X Y ∧ k0 = true) ∨ k2 = true := by
  cases c <;> simp only [e2_dc, ev_holds] at h ⊢
  · rcases e2_de_t h with ⟨a1, a2, a3, a4, g⟩ | ⟨a1, g⟩ | g
    · exact Or.inl ⟨ev_key_eqI.mpr (by omega), g⟩
    · exact Or.inr (Or.inl ⟨fun q => by have := ev_key_eqI.mp q; omega, g⟩)
    · exact Or.inr (Or.inr g)
  · rcases e2_de_t h with ⟨a1, a2, a3, a4, g⟩ | ⟨a1, g⟩ | g
    · exact Or.inr (Or.inl ⟨fun q => q (ev_key_eqI.mpr (by omega)), g⟩)
    · exact Or.inl ⟨fun q => by have := ev_key_eqI.mp q; omega, g⟩
    · exact Or.inr (Or.inr g)
  · rcases e2_dl_t h with ⟨a1, g⟩ | ⟨a1, g⟩ | g
    · exact Or.inl ⟨ev_key_ltI.mpr (by omega), g⟩
    · exact Or.inr (Or.inl ⟨fun q => by have := ev_key_ltI.mp q; omega, g⟩)
    · exact Or.inr (Or.inr g)
  · rcases e2_dl_t h with ⟨a1, g⟩ | ⟨a1, g⟩ | g
    · exact Or.inr (Or.inl ⟨fun q => by have := ev_key_leI.mp q; omega, g⟩)
    · exact Or.inl ⟨ev_key_leI.mpr (by omega), g⟩
    · exact Or.inr (Or.inr g)
  · rcases e2_dl_t h with ⟨a1, g⟩ | ⟨a1, g⟩ | g
    · exact Or.inl ⟨ev_key_ltI.mpr (by omega), g⟩
    · exact Or.inr (Or.inl ⟨fun q => by have := ev_key_ltI.mp q; omega, g⟩)
    · exact Or.inr (Or.inr g)
  · rcases e2_dl_t h with ⟨a1, g⟩ | ⟨a1, g⟩ | g
    · exact Or.inr (Or.inl ⟨fun q => by have := ev_key_leI.mp q; omega, g⟩)
    · exact Or.inl ⟨ev_key_leI.mpr (by omega), g⟩
    · exact Or.inr (Or.inr g)
/-- a comparison: the way that it goes, with bounds that hold there -/
theorem e2_cmp_t {c : ClassFile.Cond} {E : e2_E} {a b : ev_V} {K1 K0 : e2_E → Bool} (hh : e2_cmp c E a b K1 K0 = true) : e2_isI a.1 = true ∧ e2_isI b.1 = true ∧ ∀ (ads r : List Nat) (X Y : Int32), e2_sat r E → e2_rel ads r a (.int X) → e2_rel ads r b (.int Y) → (ev_holds c X Y ∧ ∃ E', K1 E' = true ∧ e2_sat r E') ∨ (¬ ev_holds c X Y ∧ ∃ E', K0 E' = true ∧ e2_sat r E') := by
  obtain ⟨i1, x, y, hh1, hb1⟩ := e2_rng_t hh
  obtain ⟨i2, z, w, hh2, hb2⟩ := e2_rng_t hh1
  refine ⟨i1, i2, fun ads r X Y hs ha hb => ?_⟩
  obtain ⟨p1, p2⟩ := hb1 ads r X hs ha
  obtain ⟨p3, p4⟩ := hb2 ads r Y hs hb
  rcases e2_dc_t hh2 p1 p2 p3 p4 with ⟨g1, g2⟩ | ⟨g1, g2⟩ | g
  · exact Or.inl ⟨g1, E, g2, hs⟩
  · exact Or.inr ⟨g1, E, g2, hs⟩
  · obtain ⟨g1, g2⟩ := e2_if_t g
    by_cases hc : ev_holds c X Y
    · exact Or.inl ⟨hc, e2_ref_t g1 hs ha hb p1 p2 p3 p4 hc⟩
    · exact Or.inr ⟨hc, e2_ref_t g2 hs ha hb p1 p2 p3 p4 (e2_neg_holds hc)⟩
theorem e2_z_t {E : e2_E} {i u : Nat} {K1 K0 : e2_E → Bool} (hh : e2_z E i u K1 K0 = true) {ads r : List Nat} {X : Int32} (hs : e2_sat r E) (ha : e2_rel ads r (14, i, u) (.int X)) : (X = 0 ∧ ∃ E', K1 E' = true ∧ e2_sat r E') ∨ (¬ X = 0 ∧ ∃ E', K0 E' = true ∧ e2_sat r E') := by
  obtain ⟨⟨lo, hi, q, d⟩, g1, hh1⟩ := e2_get_t hh
  obtain ⟨X', k, e1, e2, e3⟩ := ha
  have e1 := Value.int.inj e1
  rw [← e1] at e3
  obtain ⟨k1, kb, f1, f2, f3, f4, f5⟩ := hs.get g1
  have e2 : k = k1 := Option.some.inj ((show r[i]? = some k from e2).symm.trans f1)
  have e3 : X = 0 ↔ k = u := e3
  have f2 : lo ≤ k1 := f2
  have f3 : k1 ≤ hi := f3
  rcases e2_el_t hh1 with ⟨t1, hh2⟩ | ⟨t1, hh2⟩
  · have t1 : u < lo := Nat.le_of_ble_eq_true t1
    exact Or.inr ⟨fun z => by have := e3.mp z; omega, E, hh2, hs⟩
  · rcases e2_el_t hh2 with ⟨t2, hh3⟩ | ⟨t2, hh3⟩
    · have t2 : hi < u := Nat.le_of_ble_eq_true t2
      exact Or.inr ⟨fun z => by have := e3.mp z; omega, E, hh3, hs⟩
    · have n1 : ¬ hi < u := fun q => by rw [show Nat.blt hi u = true from Nat.ble_eq_true_of_le q] at t2; cases t2
      rcases e2_el_t hh3 with ⟨t3, hh4⟩ | ⟨-, hh4⟩
      · have t3 : lo = hi := Nat.eq_of_beq_eq_true t3
        have n0 : ¬ u < lo := fun q => by rw [show Nat.blt u lo = true from Nat.ble_eq_true_of_le q] at t1; cases t1
        exact Or.inl ⟨e3.mpr (by omega), E, hh4, hs⟩
      · obtain ⟨y1, y2⟩ := e2_if_t hh4
        by_cases hk : k = u
        · refine Or.inl ⟨e3.mpr hk, ?_⟩
          obtain ⟨y3, y4⟩ := e2_setK_t y1
          refine ⟨_, y4, by rw [List.length_set]; exact hs.1, fun j b hj => ?_⟩
          rw [List.getElem?_set] at hj
          by_cases hij : i = j
          · subst hij
            rw [if_pos rfl, if_pos y3] at hj
            cases hj
            exact ⟨k1, kb, f1, show u ≤ k1 by omega, show k1 ≤ u by omega, f4, f5⟩
          · rw [if_neg hij] at hj
            exact hs.get hj
        · exact Or.inr ⟨fun z => hk (e3.mp z), E, y2, hs⟩
