/-! LESS KNOWN: a value, a list, a heap that says no more than another, by the bounds that stand -/
/-- the floor of a value over a variable: is it at least the variable and d -/
noncomputable def e2_fl (E : e2_E) (v : ev_V) (b d : Nat) : Bool :=
  e2_p v fun t a c => e2_el (Nat.beq t 1)
    (e2_el (Nat.beq a b) (Nat.ble (Nat.add 4294967296 d) c) (e2_get E a fun B => e2_b B fun _ _ q f => e2_if (Nat.beq q b) (Nat.ble (Nat.add 4294967296 d) (Nat.add f c))))
    (e2_if (Nat.beq t 13) (e2_if (Nat.beq (Nat.mod a 8) b) (Nat.ble d (Nat.div a 8))))
/-- the floor, by the bounds alone too -/
noncomputable def e2_fl2 (E : e2_E) (v : ev_V) (b d : Nat) : Bool := e2_el (e2_fl E v b d) true (e2_rng E v fun x _ => e2_get E b fun B => e2_b B fun _ hi _ _ => Nat.ble (Nat.add hi d) x)
/-- the ceiling of a value under a variable -/
noncomputable def e2_cl (E : e2_E) (v : ev_V) (b d : Nat) : Bool :=
  e2_el (e2_p v fun t a c => e2_if (Nat.beq t 1) (e2_if (Nat.beq a b) (Nat.ble (Nat.add c d) 4294967296))) true (e2_rng E v fun _ y => e2_get E b fun B => e2_b B fun lo _ _ _ => Nat.ble (Nat.add y d) lo)
/-- a conditional bound -/
noncomputable def e2_cd (E : e2_E) (v : ev_V) (a b : Nat) : Bool :=
  e2_up E v fun x y => e2_if (Nat.ble 2147483648 x) (e2_if (Nat.ble y b) (e2_el (Nat.ble 2147483649 x) (e2_get E (Nat.mod a 8) fun _ => true) (e2_el (e2_if (Nat.beq v.1 15) (Nat.beq v.2.1 a)) true (e2_get E (Nat.mod a 8) fun B => e2_b B fun _ hi _ _ => Nat.ble hi (Nat.add 2147483648 (Nat.div a 8))))))
noncomputable def e2_vle (E : e2_E) (g v : ev_V) : Bool :=
  e2_p g fun t a b => e2_el (Nat.beq t 11) (e2_up E v fun x y => e2_if (Nat.ble a x) (Nat.ble y b))
    (e2_el (Nat.beq t 0) (e2_rng E v fun x y => e2_if (Nat.beq x y) (Nat.beq x (Nat.mod (Nat.add a 2147483648) 4294967296)))
      (e2_el (Nat.beq t 13) (e2_if (e2_fl2 E v (Nat.mod a 8) (Nat.div a 8)) (e2_up E v fun _ y => Nat.ble y b))
        (e2_el (Nat.beq t 5) (e2_isL v.1)
          (e2_el (Nat.beq t 2) (e2_if (Nat.beq v.1 2) (Nat.beq v.2.1 a)) (e2_el (Nat.beq t 12) (e2_if (e2_cl E v (Nat.mod a 8) (Nat.div a 8)) (e2_rng E v fun x _ => Nat.ble b x)) (e2_el (Nat.beq t 15) (e2_cd E v a b) (ev_veq g v)))))))
theorem e2_fl_t {E : e2_E} {v : ev_V} {b d : Nat} (hh : e2_fl E v b d = true) {ads r : List Nat} {X : Int32} (hs : e2_sat r E) (hr : e2_rel ads r v (.int X)) : ∃ k, r[b]? = some k ∧ k + d ≤ ev_key X := by
  obtain ⟨t, a, c⟩ := v
  rcases e2_el_t hh with ⟨h1, hh1⟩ | ⟨-, hh1⟩
  · have h1 : t = 1 := Nat.eq_of_beq_eq_true h1
    clear hh
    subst h1
    obtain ⟨y, k1, e1, e2, e3⟩ := hr
    have e1 := Value.int.inj e1
    have e2 : r[a]? = some k1 := e2
    have e3 : ev_key y + 4294967296 = k1 + c := e3
    rw [← e1] at e3
    rcases e2_el_t hh1 with ⟨h2, hh2⟩ | ⟨-, hh2⟩
    · have h2 : a = b := Nat.eq_of_beq_eq_true h2
      have hh2 : 4294967296 + d ≤ c := Nat.le_of_ble_eq_true hh2
      exact ⟨k1, by rw [← h2]; exact e2, by omega⟩
    · obtain ⟨⟨lo, hi, q, f⟩, g1, hh3⟩ := e2_get_t hh2
      obtain ⟨h3, hh4⟩ := e2_if_t hh3
      have h3 : q = b := Nat.eq_of_beq_eq_true h3
      have hh4 : 4294967296 + d ≤ f + c := Nat.le_of_ble_eq_true hh4
      obtain ⟨k2, kb, f1, -, -, f4, f5⟩ := hs.get g1
      have f1 : k2 = k1 := Option.some.inj (f1.symm.trans e2)
      have f4 : r[q]? = some kb := f4
      have f5 : kb + f ≤ k2 := f5
      exact ⟨kb, by rw [← h3]; exact f4, by omega⟩
  · obtain ⟨h1, hh2⟩ := e2_if_t hh1
    have h1 : t = 13 := Nat.eq_of_beq_eq_true h1
    obtain ⟨h2, hh3⟩ := e2_if_t hh2
    have h2 : a % 8 = b := Nat.eq_of_beq_eq_true h2
    have hh3 : d ≤ a / 8 := Nat.le_of_ble_eq_true hh3
    clear hh hh1 hh2
    subst h1
    obtain ⟨y, k1, e1, e2, e3, e4⟩ := hr
    have e1 := Value.int.inj e1
    have e3 : k1 + a / 8 ≤ ev_key y := e3
    exact ⟨k1, by rw [← h2]; exact e2, by rw [e1]; omega⟩
theorem e2_fl2_t {E : e2_E} {v : ev_V} {b d : Nat} (hh : e2_fl2 E v b d = true) {ads r : List Nat} {X : Int32} (hs : e2_sat r E) (hr : e2_rel ads r v (.int X)) : ∃ k, r[b]? = some k ∧ k + d ≤ ev_key X := by
  rcases e2_el_t hh with ⟨h1, -⟩ | ⟨-, hh1⟩
  · exact e2_fl_t h1 hs hr
  · obtain ⟨-, x, y, hh2, hb⟩ := e2_rng_t hh1
    obtain ⟨⟨lo, hi, q, f⟩, g1, hh3⟩ := e2_get_t hh2
    have hh3 : hi + d ≤ x := Nat.le_of_ble_eq_true hh3
    obtain ⟨b1, b2⟩ := hb ads r X hs hr
    obtain ⟨k, kb, f1, -, f3, -, -⟩ := hs.get g1
    have f3 : k ≤ hi := f3
    exact ⟨k, f1, by omega⟩
theorem e2_cl_t {E : e2_E} {v : ev_V} {b d : Nat} (hh : e2_cl E v b d = true) {ads r : List Nat} {X : Int32} (hs : e2_sat r E) (hr : e2_rel ads r v (.int X)) : ∃ k, r[b]? = some k ∧ ev_key X + d ≤ k := by
  rcases e2_el_t hh with ⟨h1, -⟩ | ⟨-, hh1⟩
  · obtain ⟨t, a, c⟩ := v
    obtain ⟨z1, h2⟩ := e2_if_t h1
    obtain ⟨z2, z3⟩ := e2_if_t h2
    have z1 : t = 1 := Nat.eq_of_beq_eq_true z1
    have z2 : a = b := Nat.eq_of_beq_eq_true z2
    have z3 : c + d ≤ 4294967296 := Nat.le_of_ble_eq_true z3
    clear hh h1 h2
    subst z1
    obtain ⟨y, k1, e1, e2, e3⟩ := hr
    have e1 := Value.int.inj e1
    have e3 : ev_key y + 4294967296 = k1 + c := e3
    rw [← e1] at e3
    exact ⟨k1, by rw [← z2]; exact e2, by omega⟩
  · obtain ⟨-, x, y, hh2, hb⟩ := e2_rng_t hh1
    obtain ⟨⟨lo, hi, q, f⟩, g1, hh3⟩ := e2_get_t hh2
    have hh3 : y + d ≤ lo := Nat.le_of_ble_eq_true hh3
    obtain ⟨b1, b2⟩ := hb ads r X hs hr
    obtain ⟨k, kb, f1, f2, -, -, -⟩ := hs.get g1
    have f2 : lo ≤ k := f2
    exact ⟨k, f1, by omega⟩
theorem e2_cd_t {E : e2_E} {v : ev_V} {a b : Nat} (hh : e2_cd E v a b = true) {ads r : List Nat} {w : Value} (hs : e2_sat r E) (hr : e2_rel ads r v w) : e2_rel ads r (15, a, b) w := by
  obtain ⟨i1, x, y, hh1, hb⟩ := e2_up_t hh
  obtain ⟨X, rfl⟩ := hr.intU i1
  obtain ⟨b1, b2⟩ := hb ads r X hs hr
  obtain ⟨z1, hh2⟩ := e2_if_t hh1
  obtain ⟨z2, hh3⟩ := e2_if_t hh2
  have z1 : 2147483648 ≤ x := Nat.le_of_ble_eq_true z1
  have z2 : y ≤ b := Nat.le_of_ble_eq_true z2
  rcases e2_el_t hh3 with ⟨z3, hh4⟩ | ⟨-, hh4⟩
  · have z3 : 2147483649 ≤ x := Nat.le_of_ble_eq_true z3
    obtain ⟨B, g1, -⟩ := e2_get_t hh4
    obtain ⟨k, kb, f1, -, -, -, -⟩ := hs.get g1
    exact ⟨X, k, rfl, f1, by omega, by show ev_key X ≤ b; omega, fun _ => by omega⟩
  · rcases e2_el_t hh4 with ⟨z3, -⟩ | ⟨-, hh5⟩
    · obtain ⟨z4, z5⟩ := e2_if_t z3
      obtain ⟨t, a', b'⟩ := v
      have y4 : t = 15 := Nat.eq_of_beq_eq_true z4
      have y5 : a' = a := Nat.eq_of_beq_eq_true z5
      clear hh hh1 hh2 hh3 hh4 z3 i1 hb z4 z5
      subst y4
      subst y5
      obtain ⟨Y, k, e1, e2, e3, e4, e5⟩ := hr
      have e1 := Value.int.inj e1
      rw [← e1] at e3 e5
      exact ⟨X, k, rfl, e2, e3, by show ev_key X ≤ b; omega, e5⟩
    · obtain ⟨⟨lo, hi, q, f⟩, g1, hh6⟩ := e2_get_t hh5
      have hh6 : hi ≤ 2147483648 + a / 8 := Nat.le_of_ble_eq_true hh6
      obtain ⟨k, kb, f1, -, f3, -, -⟩ := hs.get g1
      have f3 : k ≤ hi := f3
      refine ⟨X, k, rfl, f1, by omega, by show ev_key X ≤ b; omega, fun q => ?_⟩
      have q : 2147483648 + a / 8 < k := q
      omega
theorem e2_vle_ok {E : e2_E} {g v : ev_V} (hh : e2_vle E g v = true) {ads r : List Nat} {w : Value} (hs : e2_sat r E) (hr : e2_rel ads r v w) : e2_rel ads r g w := by
  obtain ⟨t, a, b⟩ := g
  rcases e2_el_t hh with ⟨h1, hh1⟩ | ⟨-, hh1⟩
  · have h1 : t = 11 := Nat.eq_of_beq_eq_true h1
    clear hh
    subst h1
    obtain ⟨i1, x, y, hh2, hb⟩ := e2_up_t hh1
    obtain ⟨z1, z2⟩ := e2_if_t hh2
    have z1 : a ≤ x := Nat.le_of_ble_eq_true z1
    have z2 : y ≤ b := Nat.le_of_ble_eq_true z2
    obtain ⟨X, rfl⟩ := hr.intU i1
    obtain ⟨b1, b2⟩ := hb ads r X hs hr
    exact ⟨X, rfl, by show a ≤ _; omega, by show _ ≤ b; omega⟩
  · rcases e2_el_t hh1 with ⟨h1, hh2⟩ | ⟨-, hh2⟩
    · have h1 : t = 0 := Nat.eq_of_beq_eq_true h1
      clear hh hh1
      subst h1
      obtain ⟨i1, x, y, hh3, hb⟩ := e2_rng_t hh2
      obtain ⟨z1, z2⟩ := e2_if_t hh3
      have z1 : x = y := Nat.eq_of_beq_eq_true z1
      have z2 : x = (a + 2147483648) % 4294967296 := Nat.eq_of_beq_eq_true z2
      obtain ⟨X, rfl⟩ := hr.intI i1
      obtain ⟨b1, b2⟩ := hb ads r X hs hr
      show Value.int X = .int (ev_i a)
      have e := ev_key_of a
      rw [ev_key_eqI.mpr (show ev_key X = ev_key (ev_i a) by omega)]
    · rcases e2_el_t hh2 with ⟨h1, hh3⟩ | ⟨-, hh3⟩
      · have h1 : t = 13 := Nat.eq_of_beq_eq_true h1
        clear hh hh1 hh2
        subst h1
        obtain ⟨g1, hh4⟩ := e2_if_t hh3
        obtain ⟨i1, x, y, hh5, hb⟩ := e2_up_t hh4
        have hh5 : y ≤ b := Nat.le_of_ble_eq_true hh5
        obtain ⟨X, rfl⟩ := hr.intU i1
        obtain ⟨b1, b2⟩ := hb ads r X hs hr
        obtain ⟨k, q1, q2⟩ := e2_fl2_t g1 hs hr
        exact ⟨X, k, rfl, q1, q2, by show _ ≤ b; omega⟩
      · rcases e2_el_t hh3 with ⟨h1, hh4⟩ | ⟨-, hh4⟩
        · have h1 : t = 5 := Nat.eq_of_beq_eq_true h1
          clear hh hh1 hh2 hh3
          subst h1
          exact hr.long hh4
        · rcases e2_el_t hh4 with ⟨h1, hh5⟩ | ⟨-, hh5⟩
          · have h1 : t = 2 := Nat.eq_of_beq_eq_true h1
            clear hh hh1 hh2 hh3 hh4
            subst h1
            obtain ⟨z1, z2⟩ := e2_if_t hh5
            obtain ⟨q, q1, q2⟩ := hr.ref (Nat.eq_of_beq_eq_true z1)
            rw [show v.2.1 = a from Nat.eq_of_beq_eq_true z2] at q1
            exact ⟨q, q1, q2⟩
          · rcases e2_el_t hh5 with ⟨h1, hh6⟩ | ⟨-, hh6⟩
            · have h1 : t = 12 := Nat.eq_of_beq_eq_true h1
              clear hh hh1 hh2 hh3 hh4 hh5
              subst h1
              obtain ⟨g1, hh7⟩ := e2_if_t hh6
              obtain ⟨i1, x, y, hh8, hb⟩ := e2_rng_t hh7
              have hh8 : b ≤ x := Nat.le_of_ble_eq_true hh8
              obtain ⟨X, rfl⟩ := hr.intI i1
              obtain ⟨b1, b2⟩ := hb ads r X hs hr
              obtain ⟨k, q1, q2⟩ := e2_cl_t g1 hs hr
              exact ⟨X, k, rfl, q1, q2, by show b ≤ _; omega⟩
            · rcases e2_el_t hh6 with ⟨h1, hh7⟩ | ⟨-, hh7⟩
              · have h1 : t = 15 := Nat.eq_of_beq_eq_true h1
                clear hh hh1 hh2 hh3 hh4 hh5 hh6
                subst h1
                exact e2_cd_t hh7 hs hr
              · rw [ev_veq_ok hh7]
                exact hr
/-- in a cell a value may be unknown, and a local empty -/
noncomputable def e2_vl7 (E : e2_E) (g v : ev_V) : Bool := e2_el (Nat.beq g.1 7) true (e2_vle E g v)
theorem e2_vl7_ok {E : e2_E} {g v : ev_V} (hh : e2_vl7 E g v = true) {ads r : List Nat} {w : Value} (hs : e2_sat r E) (hr : e2_rel ads r v w) : e2_rel ads r g w := by
  rcases e2_el_t hh with ⟨h1, -⟩ | ⟨-, h1⟩
  · obtain ⟨t, a, b⟩ := g
    have h1 : t = 7 := Nat.eq_of_beq_eq_true h1
    subst h1
    exact trivial
  · exact e2_vle_ok h1 hs hr
noncomputable def e2_vl9 (E : e2_E) (g v : ev_V) : Bool := e2_el (Nat.beq g.1 9) true (e2_if (!(Nat.beq g.1 7)) (e2_if (!(Nat.beq v.1 9)) (e2_vle E g v)))
noncomputable def e2_lle (le : ev_V → ev_V → Bool) (a : List ev_V) : List ev_V → Bool :=
  List.rec (motive := fun _ => List ev_V → Bool) (fun b => e2_0 b true) (fun x _ ih b => e2_1 b fun y ys => e2_if (le x y) (ih ys)) a
theorem e2_lle_ok {le : ev_V → ev_V → Bool} : ∀ {a b : List ev_V}, e2_lle le a b = true → a.length = b.length ∧ ∀ (j : Nat) (v : ev_V), a[j]? = some v → ∃ v', b[j]? = some v' ∧ le v v' = true := by
  intro a
  induction a with
  | nil =>
    intro b h
    obtain ⟨rfl, -⟩ := e2_0_t (show e2_0 b true = true from h)
    exact ⟨rfl, fun j v hj => by simp at hj⟩
  | cons x xs ih =>
    intro b h
    obtain ⟨y, ys, rfl, h1⟩ := e2_1_t (show e2_1 b (fun y ys => e2_if (le x y) (e2_lle le xs ys)) = true from h)
    obtain ⟨h2, h3⟩ := e2_if_t h1
    obtain ⟨g1, g2⟩ := ih h3
    refine ⟨by simp [g1], fun j v hj => ?_⟩
    cases j with
    | zero => cases hj; exact ⟨y, rfl, h2⟩
    | succ j => exact g2 j v hj
theorem e2_fr.le {E : e2_E} {ads r : List Nat} {nL : Nat} {al al' : List ev_V} {ls : Array Slot} (hs : e2_sat r E) (h : e2_fr ads r nL al ls) (hl : e2_lle (e2_vl9 E) al' al = true) : e2_fr ads r nL al' ls := by
  obtain ⟨h1, lv, h2, h3⟩ := h
  obtain ⟨e1, e2⟩ := e2_lle_ok hl
  refine ⟨e1.trans h1, lv, h2, fun i v hi hv => ?_⟩
  obtain ⟨v', q1, q2⟩ := e2 i v hi
  rcases e2_el_t q2 with ⟨z, -⟩ | ⟨-, z⟩
  · exact absurd (Nat.eq_of_beq_eq_true z) hv
  · obtain ⟨z7, z⟩ := e2_if_t z
    obtain ⟨z9, z⟩ := e2_if_t z
    have n7 : v.1 ≠ 7 := fun q => by rw [q] at z7; exact absurd z7 (by decide)
    have n9 : v'.1 ≠ 9 := fun q => by rw [q] at z9; exact absurd z9 (by decide)
    obtain ⟨-, w, g1, g2⟩ := h3 i v' q1 n9
    exact ⟨n7, w, g1, e2_vle_ok z hs g2⟩
theorem e2_relS.le {E : e2_E} {ads r : List Nat} (hs : e2_sat r E) : ∀ {a b : List ev_V} {vs : List Value}, e2_lle (e2_vl9 E) a b = true → (∀ v ∈ a, v.1 ≠ 9) → e2_relS ads r b vs → e2_relS ads r a vs := by
  intro a
  induction a with
  | nil =>
    intro b vs h _ hr
    obtain ⟨rfl, -⟩ := e2_0_t (show e2_0 b true = true from h)
    exact hr
  | cons x xs ih =>
    intro b vs h h9 hr
    obtain ⟨y, ys, rfl, h1⟩ := e2_1_t (show e2_1 b (fun y ys => e2_if (e2_vl9 E x y) (e2_lle (e2_vl9 E) xs ys)) = true from h)
    obtain ⟨h2, h3⟩ := e2_if_t h1
    obtain ⟨w, ws, rfl, q1, q7, q2⟩ := hr.cons
    rcases e2_el_t h2 with ⟨z, -⟩ | ⟨-, z⟩
    · exact absurd (Nat.eq_of_beq_eq_true z) (h9 x List.mem_cons_self)
    · obtain ⟨z7, z⟩ := e2_if_t z
      obtain ⟨-, z⟩ := e2_if_t z
      exact ⟨e2_vle_ok z hs q1, fun q => by rw [q] at z7; exact absurd z7 (by decide), ih h3 (fun v hv => h9 v (List.mem_cons_of_mem _ hv)) q2⟩
/-- a cell: alike in its tag, or a row of elements alike that takes them all -/
noncomputable def e2_cle0 (E : e2_E) (a b : ev_C) : Bool := e2_el (Nat.ble 999 a.1) true (e2_el (Nat.beq a.1 b.1) (e2_el (Nat.blt a.1 53) (e2_lle (e2_vl7 E) a.2 b.2) (e2_el (Nat.ble 60 a.1) true (e2_el (Nat.beq a.1 53) (ev_leq a.2 b.2) (e2_if (Nat.ble a.1 56) (e2_2 a.2 fun n v s => e2_0 s (e2_2 b.2 fun n' v' _ => e2_if (Nat.beq n.1 0) (e2_if (Nat.beq n.2.1 n'.2.1) (e2_p v fun t lo hi => e2_p v' fun _ lo' hi' => e2_if (Nat.beq t 11) (e2_if (Nat.ble lo lo') (Nat.ble hi' hi)))))))))) false)
/-- read-only rows: less known of them, or as rows that may be written -/
noncomputable def e2_cleX (E : e2_E) (a b : ev_C) : Bool :=
  e2_el (Nat.beq b.1 58) (e2_if (Nat.beq a.1 50 || Nat.beq a.1 58) (e2_lle (e2_vl7 E) a.2 b.2))
    (e2_if (Nat.beq b.1 57) (e2_el (Nat.beq a.1 54) (e2_2 a.2 fun n v s => e2_0 s (e2_2 b.2 fun n' v' _ => e2_if (Nat.beq n.1 0) (e2_if (Nat.beq n.2.1 n'.2.1) (e2_p v fun t lo hi => e2_p v' fun _ lo' hi' => e2_if (Nat.beq t 11) (e2_if (Nat.ble lo lo') (Nat.ble hi' hi))))))
      (e2_if (Nat.beq a.1 57) (e2_3 a.2 fun n v p s => e2_0 s (e2_if (ev_veq (1, 1, p.2.2) p) (e2_2 b.2 fun n' v' _ => e2_if (Nat.beq n.1 0) (e2_if (Nat.beq n.2.1 n'.2.1) (e2_p v fun t lo hi => e2_p v' fun _ lo' hi' => e2_if (Nat.beq t 11) (e2_if (Nat.ble lo lo') (Nat.ble hi' hi))))))))))
noncomputable def e2_cle (E : e2_E) (a b : ev_C) : Bool := e2_el (e2_cle0 E a b) true (e2_cleX E a b)
/-- the places of the cells of which something is known by their values -/
noncomputable def e2_idx (n : Nat) : ev_T ev_C n → Nat → Nat → List Nat → List Nat :=
  Nat.rec (motive := fun n => ev_T ev_C n → Nat → Nat → List Nat → List Nat) (fun a i _ acc => Bool.rec (motive := fun _ => List Nat) acc (i :: acc) (Nat.blt (show ev_C from a).1 100)) (fun n ih a i b acc => Prod.rec (motive := fun _ => List Nat) (fun (a1 : ev_T ev_C n) (a2 : ev_T ev_C n) => ih a1 i (Nat.add b b) (ih a2 (Nat.add i b) (Nat.add b b) acc)) (a : ev_T ev_C n × ev_T ev_C n)) n
/-- the others: nothing known, or the same tag; no bounds are needed here -/
noncomputable def e2_skl (n : Nat) : ev_T ev_C n → ev_T ev_C n → Bool :=
  Nat.rec (motive := fun n => ev_T ev_C n → ev_T ev_C n → Bool) (fun a b => e2_el (Nat.blt (show ev_C from a).1 60) true (e2_el (Nat.ble 999 (show ev_C from a).1) true (Nat.beq (show ev_C from a).1 (show ev_C from b).1))) (fun n ih a b => Prod.rec (motive := fun _ => Bool) (fun (a1 : ev_T ev_C n) (a2 : ev_T ev_C n) => Prod.rec (motive := fun _ => Bool) (fun (b1 : ev_T ev_C n) (b2 : ev_T ev_C n) => e2_if (ih a1 b1) (ih a2 b2)) (b : ev_T ev_C n × ev_T ev_C n)) (a : ev_T ev_C n × ev_T ev_C n)) n
noncomputable def e2_allI (L : List Nat) (k : Nat → Bool) : Bool := List.rec (motive := fun _ => Bool) true (fun i _ ih => e2_if (k i) ih) L
noncomputable def e2_hle (E : e2_E) (n : Nat) (a b : ev_T ev_C n) : Bool := e2_if (e2_skl n a b) (e2_allI (e2_idx n a 0 1 []) fun i => ev_fN i fun i => ev_tget n a i fun x => ev_tget n b i fun y => e2_cle E x y)
theorem e2_allI_ok {k : Nat → Bool} : ∀ {L : List Nat}, e2_allI L k = true → ∀ i ∈ L, k i = true := by
  intro L
  induction L with
  | nil => intro _ i hi; cases hi
  | cons x L ih =>
    intro h i hi
    obtain ⟨h1, h2⟩ := e2_if_t (show e2_if (k x) (e2_allI L k) = true from h)
    rcases List.mem_cons.mp hi with rfl | hi
    · exact h1
    · exact ih h2 i hi
theorem e2_idx_acc : ∀ (n : Nat) (a : ev_T ev_C n) (i b : Nat) (acc : List Nat) (x : Nat), x ∈ acc → x ∈ e2_idx n a i b acc := by
  intro n
  induction n with
  | zero =>
    intro a i b acc x hx
    show x ∈ (Bool.rec (motive := fun _ => List Nat) acc (i :: acc) (Nat.blt (show ev_C from a).1 100) : List Nat)
    cases Nat.blt (show ev_C from a).1 100
    · exact hx
    · exact List.mem_cons_of_mem _ hx
  | succ n ih =>
    intro a i b acc x hx
    obtain ⟨a1, a2, rfl⟩ : ∃ (l r : ev_T ev_C n), a = (show ev_T ev_C (n + 1) from ((l, r) : ev_T ev_C n × ev_T ev_C n)) := ⟨(show ev_T ev_C n × ev_T ev_C n from a).1, (show ev_T ev_C n × ev_T ev_C n from a).2, rfl⟩
    show x ∈ e2_idx n a1 i (Nat.add b b) (e2_idx n a2 (Nat.add i b) (Nat.add b b) acc)
    exact ih a1 _ _ _ x (ih a2 _ _ _ x hx)
theorem e2_idx_in : ∀ (n : Nat) (a : ev_T ev_C n) (i b : Nat) (acc : List Nat) (k : Nat), k < 2 ^ n → (ev_tget n a k id : ev_C).1 < 100 → i + b * k ∈ e2_idx n a i b acc := by
  intro n
  induction n with
  | zero =>
    intro a i b acc k hk ht
    have hk : k = 0 := by simpa using hk
    subst hk
    have ht : (show ev_C from a).1 < 100 := ht
    show i + b * 0 ∈ (Bool.rec (motive := fun _ => List Nat) acc (i :: acc) (Nat.blt (show ev_C from a).1 100) : List Nat)
    rw [show Nat.blt (show ev_C from a).1 100 = true from Nat.ble_eq_true_of_le ht]
    show i + b * 0 ∈ i :: acc
    simp
  | succ n ih =>
    intro a i b acc k hk ht
    obtain ⟨a1, a2, rfl⟩ : ∃ (l r : ev_T ev_C n), a = (show ev_T ev_C (n + 1) from ((l, r) : ev_T ev_C n × ev_T ev_C n)) := ⟨(show ev_T ev_C n × ev_T ev_C n from a).1, (show ev_T ev_C n × ev_T ev_C n from a).2, rfl⟩
    have ht : (Bool.rec (motive := fun _ => ev_C) (ev_tget n a1 (Nat.div k 2) id) (ev_tget n a2 (Nat.div k 2) id) (Nat.beq (Nat.mod k 2) 1) : ev_C).1 < 100 := ht
    show i + b * k ∈ e2_idx n a1 i (Nat.add b b) (e2_idx n a2 (Nat.add i b) (Nat.add b b) acc)
    have hq : k / 2 < 2 ^ n := by rw [Nat.pow_succ] at hk; omega
    cases hz : Nat.beq (Nat.mod k 2) 1 with
    | true =>
      rw [hz] at ht
      have hz : k % 2 = 1 := Nat.eq_of_beq_eq_true hz
      refine e2_idx_acc n a1 _ _ _ _ ?_
      have := ih a2 (Nat.add i b) (Nat.add b b) acc (k / 2) hq ht
      have e : i + b * k = Nat.add i b + Nat.add b b * (k / 2) := by
        show i + b * k = (i + b) + (b + b) * (k / 2)
        have hk2 : k = 2 * (k / 2) + 1 := by omega
        have : b * k = b * (2 * (k / 2) + 1) := by rw [← hk2]
        rw [this, Nat.mul_add, Nat.mul_one, ← Nat.mul_assoc, Nat.mul_two, Nat.add_comm ((b + b) * (k / 2)) b, Nat.add_assoc]
      rw [e]
      exact this
    | false =>
      rw [hz] at ht
      have hz : k % 2 ≠ 1 := fun q => by rw [show Nat.beq (Nat.mod k 2) 1 = true from by rw [show Nat.mod k 2 = 1 from q]; rfl] at hz; cases hz
      have := ih a1 i (Nat.add b b) (e2_idx n a2 (Nat.add i b) (Nat.add b b) acc) (k / 2) hq ht
      have e : i + b * k = i + Nat.add b b * (k / 2) := by
        show i + b * k = i + (b + b) * (k / 2)
        have hk2 : k = 2 * (k / 2) := by omega
        have : b * k = b * (2 * (k / 2)) := by rw [← hk2]
        rw [this, ← Nat.mul_assoc, Nat.mul_two]
      rw [e]
      exact this
theorem e2_skl_ok : ∀ (n : Nat) (a b : ev_T ev_C n), e2_skl n a b = true → ∀ k, (ev_tget n a k id : ev_C).1 < 60 ∨ 999 ≤ (ev_tget n a k id : ev_C).1 ∨ (ev_tget n a k id : ev_C).1 = (ev_tget n b k id : ev_C).1 := by
  intro n
  induction n with
  | zero =>
    intro a b h k
    rcases e2_el_t (show e2_el (Nat.blt (show ev_C from a).1 60) true (e2_el (Nat.ble 999 (show ev_C from a).1) true (Nat.beq (show ev_C from a).1 (show ev_C from b).1)) = true from h) with ⟨z, -⟩ | ⟨-, h1⟩
    · exact Or.inl (Nat.le_of_ble_eq_true z)
    · rcases e2_el_t h1 with ⟨z, -⟩ | ⟨-, z⟩
      · exact Or.inr (Or.inl (Nat.le_of_ble_eq_true z))
      · exact Or.inr (Or.inr (Nat.eq_of_beq_eq_true z))
  | succ n ih =>
    intro a b h k
    obtain ⟨a1, a2, rfl⟩ : ∃ (l r : ev_T ev_C n), a = (show ev_T ev_C (n + 1) from ((l, r) : ev_T ev_C n × ev_T ev_C n)) := ⟨(show ev_T ev_C n × ev_T ev_C n from a).1, (show ev_T ev_C n × ev_T ev_C n from a).2, rfl⟩
    obtain ⟨b1, b2, rfl⟩ : ∃ (l r : ev_T ev_C n), b = (show ev_T ev_C (n + 1) from ((l, r) : ev_T ev_C n × ev_T ev_C n)) := ⟨(show ev_T ev_C n × ev_T ev_C n from b).1, (show ev_T ev_C n × ev_T ev_C n from b).2, rfl⟩
    obtain ⟨h1, h2⟩ := e2_if_t (show e2_if (e2_skl n a1 b1) (e2_skl n a2 b2) = true from h)
    have g1 := ih a1 b1 h1 (Nat.div k 2)
    have g2 := ih a2 b2 h2 (Nat.div k 2)
    show (Bool.rec (motive := fun _ => ev_C) (ev_tget n a1 (Nat.div k 2) id) (ev_tget n a2 (Nat.div k 2) id) (Nat.beq (Nat.mod k 2) 1) : ev_C).1 < 60 ∨ 999 ≤ (Bool.rec (motive := fun _ => ev_C) (ev_tget n a1 (Nat.div k 2) id) (ev_tget n a2 (Nat.div k 2) id) (Nat.beq (Nat.mod k 2) 1) : ev_C).1 ∨ (Bool.rec (motive := fun _ => ev_C) (ev_tget n a1 (Nat.div k 2) id) (ev_tget n a2 (Nat.div k 2) id) (Nat.beq (Nat.mod k 2) 1) : ev_C).1 = (Bool.rec (motive := fun _ => ev_C) (ev_tget n b1 (Nat.div k 2) id) (ev_tget n b2 (Nat.div k 2) id) (Nat.beq (Nat.mod k 2) 1) : ev_C).1
    cases Nat.beq (Nat.mod k 2) 1
    · exact g1
    · exact g2
theorem e2_cle_op0 {E : e2_E} {a b : ev_C} (h : 60 ≤ a.1) (h2 : 999 ≤ a.1 ∨ a.1 = b.1) : e2_cle0 E a b = true := by
  by_cases h9 : 999 ≤ a.1
  · unfold e2_cle0
    rw [Nat.ble_eq_true_of_le h9]
    rfl
  · rcases h2 with h2 | h2
    · exact absurd h2 h9
    · unfold e2_cle0
      have e1 : Nat.ble 999 a.1 = false := by
        cases hz : Nat.ble 999 a.1
        · rfl
        · exact absurd (Nat.le_of_ble_eq_true hz) h9
      have e2 : Nat.beq a.1 b.1 = true := by rw [h2]; exact Nat.beq_refl _
      have e3 : Nat.blt a.1 53 = false := by
        cases hz : Nat.blt a.1 53
        · rfl
        · have : a.1 < 53 := Nat.le_of_ble_eq_true hz
          omega
      rw [e1, e2, e3, Nat.ble_eq_true_of_le h]
      rfl
theorem e2_cle_op {E : e2_E} {a b : ev_C} (h : 60 ≤ a.1) (h2 : 999 ≤ a.1 ∨ a.1 = b.1) : e2_cle E a b = true := by
  unfold e2_cle
  rw [e2_cle_op0 h h2]
  rfl
theorem e2_idx_cle {E : e2_E} {n : Nat} {a b : ev_T ev_C n} (h : e2_allI (e2_idx n a 0 1 []) (fun i => ev_fN i fun i => ev_tget n a i fun x => ev_tget n b i fun y => e2_cle E x y) = true) {k : Nat} (hk : k < 2 ^ n) (ht : (ev_tget n a k id : ev_C).1 < 100) : e2_cle E (ev_tget n a k id) (ev_tget n b k id) = true := by
  have := e2_idx_in n a 0 1 [] k hk ht
  rw [Nat.zero_add, Nat.one_mul] at this
  have g := e2_allI_ok h k this
  rw [ev_fN_eq, ev_tget_k, ev_tget_k] at g
  exact g
theorem e2_hle_ok {E : e2_E} (n : Nat) (a b : ev_T ev_C n) (h : e2_hle E n a b = true) (k : Nat) (hk : k < 2 ^ n) : e2_cle E (ev_tget n a k id) (ev_tget n b k id) = true := by
  obtain ⟨h1, h2⟩ := e2_if_t h
  by_cases ht : (ev_tget n a k id : ev_C).1 < 60
  · exact e2_idx_cle h2 hk (by omega)
  · rcases e2_skl_ok n a b h1 k with z | z | z
    · exact absurd z ht
    · exact e2_cle_op (by omega) (Or.inl z)
    · exact e2_cle_op (by omega) (Or.inr z)
theorem e2_relC.le0 {E : e2_E} {cA : e2_cA} {ads r : List Nat} {a b : ev_C} {e : va_E} (hs : e2_sat r E) (h : e2_relC cA ads r b.1 b.2 e) (hg : e2_cle0 E a b = true) : e2_relC cA ads r a.1 a.2 e := by
  rcases e2_el_t hg with ⟨z, -⟩ | ⟨-, h0⟩
  · have z : 999 ≤ a.1 := Nat.le_of_ble_eq_true z
    exact Or.inr (Or.inr (Or.inr (Or.inr (Or.inl ⟨by omega, fun q => by omega⟩))))
  · rcases e2_el_t h0 with ⟨z, h1⟩ | ⟨-, h1⟩
    · have z : a.1 = b.1 := Nat.eq_of_beq_eq_true z
      rcases e2_el_t h1 with ⟨z1, h2⟩ | ⟨z1, h2⟩
      · have z1 : a.1 < 53 := Nat.le_of_ble_eq_true z1
        obtain ⟨hl, hv⟩ := e2_lle_ok h2
        by_cases hb : b.1 < 50
        · obtain ⟨vs, e1, e2, e3⟩ := h.obj hb
          refine Or.inl ⟨by omega, vs, by rw [z]; exact e1, e2.trans hl.symm, fun j v hj => ?_⟩
          obtain ⟨v', q1, q2⟩ := hv j v hj
          obtain ⟨w, q3, q4⟩ := e3 j v' q1
          exact ⟨w, q3, e2_vl7_ok q2 hs q4⟩
        · obtain ⟨f, e1, e2⟩ := h.arr (by omega) (by omega)
          refine Or.inr (Or.inl ⟨by omega, by omega, f, by rw [z, hl]; exact e1, fun j v hj => ?_⟩)
          obtain ⟨v', q1, q2⟩ := hv j v hj
          exact e2_vl7_ok q2 hs (e2 j v' q1)
      · have n1 : ¬ a.1 < 53 := fun q => by rw [show Nat.blt a.1 53 = true from Nat.ble_eq_true_of_le q] at z1; cases z1
        rcases e2_el_t h2 with ⟨z2, -⟩ | ⟨z2, h3⟩
        · have z2 : 60 ≤ a.1 := Nat.le_of_ble_eq_true z2
          rcases h with ⟨q, -⟩ | ⟨-, q, -⟩ | ⟨q, -⟩ | ⟨-, q, -⟩ | ⟨q, q2⟩ | ⟨q, -⟩ | ⟨q, -⟩ | ⟨q, -⟩
          · omega
          · omega
          · omega
          · omega
          · exact Or.inr (Or.inr (Or.inr (Or.inr (Or.inl ⟨z2, fun q3 => by rw [z]; exact q2 (by omega)⟩))))
          · omega
          · omega
          · omega
        · rcases e2_el_t h3 with ⟨z3, h4⟩ | ⟨-, h4⟩
          · have z3 : a.1 = 53 := Nat.eq_of_beq_eq_true z3
            rw [ev_leq_ok h4, z]
            exact h
          · obtain ⟨y56, h4⟩ := e2_if_t h4
            have y56 : a.1 ≤ 56 := Nat.le_of_ble_eq_true y56
            obtain ⟨n, v, s1, l1, h5⟩ := e2_2_t h4
            obtain ⟨rfl, h5⟩ := e2_0_t h5
            obtain ⟨n', v', s2, l2, h6⟩ := e2_2_t h5
            have n2 : ¬ 60 ≤ a.1 := fun q => by rw [Nat.ble_eq_true_of_le q] at z2; cases z2
            have n3 : ¬ a.1 = 53 := fun q => by
              rcases e2_el_t h3 with ⟨z3, -⟩ | ⟨z3, -⟩
              · rcases h with ⟨q5, -⟩ | ⟨-, q5, -⟩ | ⟨q5, q6⟩ | ⟨q5, -⟩ | ⟨q5, -⟩ | ⟨q5, -⟩ | ⟨q5, -⟩ | ⟨q5, -⟩
                · omega
                · omega
                · obtain ⟨N, bb, f, q7, -⟩ := q6
                  rw [q7] at l2
                  cases l2
                · omega
                · omega
                · omega
                · omega
                · omega
              · rw [q] at z3; exact absurd z3 (by decide)
            rcases h with ⟨q5, -⟩ | ⟨-, q5, -⟩ | ⟨q5, -⟩ | ⟨q5, q6, N, bb, lo0, hi0, f, q7, q8, q9⟩ | ⟨q5, -⟩ | ⟨q5, -⟩ | ⟨q5, -⟩ | ⟨q5, -⟩
            · omega
            · omega
            · omega
            · rw [q7] at l2
              cases l2
              obtain ⟨t, lo, hi⟩ := v
              obtain ⟨n0, n1, n2'⟩ := n
              obtain ⟨y1, h7⟩ := e2_if_t h6
              obtain ⟨y2, h8⟩ := e2_if_t h7
              obtain ⟨y3, h9⟩ := e2_if_t h8
              obtain ⟨y4, y5⟩ := e2_if_t h9
              have y1 : n0 = 0 := Nat.eq_of_beq_eq_true y1
              have y2 : n1 = N := Nat.eq_of_beq_eq_true y2
              have y3 : t = 11 := Nat.eq_of_beq_eq_true y3
              have y4 : lo ≤ lo0 := Nat.le_of_ble_eq_true y4
              have y5 : hi0 ≤ hi := Nat.le_of_ble_eq_true y5
              rw [y1, y2, y3] at l1
              refine Or.inr (Or.inr (Or.inr (Or.inl ⟨by omega, by omega, N, n2', lo, hi, f, l1, by rw [z]; exact q8, fun j hj => ?_⟩)))
              obtain ⟨p1, p2⟩ := q9 j hj
              exact ⟨by omega, by omega⟩
            · omega
            · omega
            · omega
            · omega
    · exact absurd h1 (by simp)
theorem e2_relC.le {E : e2_E} {cA : e2_cA} {ads r : List Nat} {a b : ev_C} {e : va_E} (hs : e2_sat r E) (h : e2_relC cA ads r b.1 b.2 e) (hg : e2_cle E a b = true) : e2_relC cA ads r a.1 a.2 e := by
  rcases e2_el_t hg with ⟨z, -⟩ | ⟨-, hx⟩
  · exact h.le0 hs z
  · have uni : ∀ {n v : ev_V} {N bb lo0 hi0 : Nat} {rest : List ev_V}, b.2 = (0, N, bb) :: (11, lo0, hi0) :: rest → (e2_2 b.2 fun n' v' _ => e2_if (Nat.beq n.1 0) (e2_if (Nat.beq n.2.1 n'.2.1) (e2_p v fun t lo hi => e2_p v' fun _ lo' hi' => e2_if (Nat.beq t 11) (e2_if (Nat.ble lo lo') (Nat.ble hi' hi))))) = true → ∃ n2 lo hi, n = (0, N, n2) ∧ v = (11, lo, hi) ∧ lo ≤ lo0 ∧ hi0 ≤ hi := by
      intro n v N bb lo0 hi0 rest hb hk
      rw [hb] at hk
      obtain ⟨t, lo, hi⟩ := v
      obtain ⟨n0, n1, n2⟩ := n
      obtain ⟨y1, h7⟩ := e2_if_t hk
      obtain ⟨y2, h8⟩ := e2_if_t h7
      obtain ⟨y3, h9⟩ := e2_if_t h8
      obtain ⟨y4, y5⟩ := e2_if_t h9
      have y1 : n0 = 0 := Nat.eq_of_beq_eq_true y1
      have y2 : n1 = N := Nat.eq_of_beq_eq_true y2
      have y3 : t = 11 := Nat.eq_of_beq_eq_true y3
      exact ⟨n2, lo, hi, by rw [y1, y2], by rw [y3], Nat.le_of_ble_eq_true y4, Nat.le_of_ble_eq_true y5⟩
    rcases e2_el_t hx with ⟨z, h1⟩ | ⟨-, h1⟩
    · have z : b.1 = 58 := Nat.eq_of_beq_eq_true z
      obtain ⟨z1, h2⟩ := e2_if_t h1
      obtain ⟨hl, hv⟩ := e2_lle_ok h2
      obtain ⟨f, e1, e2⟩ := h.arr8 z
      have hb : ∀ (j : Nat) (v : ev_V), a.2[j]? = some v → e2_rel ads r v (.int (f j)) := fun j v hj => by
        obtain ⟨v', q1, q2⟩ := hv j v hj
        exact e2_vl7_ok q2 hs (e2 j v' q1)
      simp only [Bool.or_eq_true] at z1
      rcases z1 with z1 | z1
      · have z1 : a.1 = 50 := Nat.eq_of_beq_eq_true z1
        exact Or.inr (Or.inl ⟨by omega, by omega, f, by rw [z1, hl]; exact e1, hb⟩)
      · have z1 : a.1 = 58 := Nat.eq_of_beq_eq_true z1
        exact Or.inr (Or.inr (Or.inr (Or.inr (Or.inr (Or.inr (Or.inl ⟨z1, f, by rw [hl]; exact e1, hb⟩))))))
    · obtain ⟨z, h2⟩ := e2_if_t h1
      have z : b.1 = 57 := Nat.eq_of_beq_eq_true z
      obtain ⟨N, bb, lo0, hi0, c, f, q7, q8, q9⟩ := h.uni7 z
      rcases e2_el_t h2 with ⟨z1, h3⟩ | ⟨-, h3⟩
      · have z1 : a.1 = 54 := Nat.eq_of_beq_eq_true z1
        obtain ⟨n, v, s1, l1, h4⟩ := e2_2_t h3
        obtain ⟨rfl, h4⟩ := e2_0_t h4
        obtain ⟨n2, lo, hi, rfl, rfl, y4, y5⟩ := uni q7 h4
        exact Or.inr (Or.inr (Or.inr (Or.inl ⟨by omega, by omega, N, n2, lo, hi, f, l1, by rw [z1]; exact q8, fun j hj => by obtain ⟨p1, p2⟩ := q9 j hj; exact ⟨by omega, by omega⟩⟩)))
      · obtain ⟨z1, h4⟩ := e2_if_t h3
        have z1 : a.1 = 57 := Nat.eq_of_beq_eq_true z1
        obtain ⟨n, v, p, s1, l1, h5⟩ := e2_3_t h4
        obtain ⟨rfl, h5⟩ := e2_0_t h5
        obtain ⟨zp, h6⟩ := e2_if_t h5
        obtain ⟨n2, lo, hi, rfl, rfl, y4, y5⟩ := uni q7 h6
        have zp := ev_veq_ok zp
        exact Or.inr (Or.inr (Or.inr (Or.inr (Or.inr (Or.inl ⟨z1, N, n2, lo, hi, p.2.2, f, by rw [l1, ← zp], q8, fun j hj => by obtain ⟨p1, p2⟩ := q9 j hj; exact ⟨by omega, by omega⟩⟩)))))
theorem e2_cle_tag {E : e2_E} {a b : ev_C} (hg : e2_cle E a b = true) (ha : a.1 = 57 ∨ a.1 = 58) : b.1 = a.1 := by
  rcases e2_el_t hg with ⟨z, -⟩ | ⟨-, hx⟩
  · rcases e2_el_t z with ⟨z, -⟩ | ⟨-, h0⟩
    · have z : 999 ≤ a.1 := Nat.le_of_ble_eq_true z
      omega
    · rcases e2_el_t h0 with ⟨z, -⟩ | ⟨-, h1⟩
      · exact (Nat.eq_of_beq_eq_true z).symm
      · exact absurd h1 (by simp)
  · rcases e2_el_t hx with ⟨z, h1⟩ | ⟨-, h1⟩
    · have z : b.1 = 58 := Nat.eq_of_beq_eq_true z
      obtain ⟨z1, -⟩ := e2_if_t h1
      simp only [Bool.or_eq_true] at z1
      rcases z1 with z1 | z1
      · have z1 : a.1 = 50 := Nat.eq_of_beq_eq_true z1
        omega
      · have z1 : a.1 = 58 := Nat.eq_of_beq_eq_true z1
        omega
    · obtain ⟨z, h2⟩ := e2_if_t h1
      have z : b.1 = 57 := Nat.eq_of_beq_eq_true z
      rcases e2_el_t h2 with ⟨z1, -⟩ | ⟨-, h3⟩
      · have z1 : a.1 = 54 := Nat.eq_of_beq_eq_true z1
        omega
      · obtain ⟨z1, -⟩ := e2_if_t h3
        have z1 : a.1 = 57 := Nat.eq_of_beq_eq_true z1
        omega
theorem e2_wo.le {E : e2_E} {D : va_G} {cA : e2_cA} {A : Nat → Prop} {ads r : List Nat} {ws : va_W} {g h : ev_H} {H : Heap} (hs : e2_sat r E) (hw : e2_wo D cA A ads r ws h H) (hg : e2_hle E 8 g h = true) : e2_wo D cA A ads r ws g H := by
  obtain ⟨h1, h2, h3, h4, h5, h6⟩ := hw
  refine ⟨h1, h2, fun k hk => ?_, h4, h5, h6.tags fun k hk hz => e2_cle_tag (e2_hle_ok 8 g h hg k (by omega)) hz⟩
  obtain ⟨a, e, q1, q2⟩ := h3 k hk
  exact ⟨a, e, q1, q2.le hs (e2_hle_ok 8 g h hg k (by omega))⟩
