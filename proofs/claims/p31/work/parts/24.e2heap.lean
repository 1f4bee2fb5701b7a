/-! THE HEAP'S OPERATIONS of the second engine -/
theorem e2_relC.obj {cA : e2_cA} {ads r : List Nat} {tag : Nat} {l : List ev_V} {e : va_E} (h : e2_relC cA ads r tag l e) (ht : tag < 50) : ∃ vs, e = .inr (tag, vs) ∧ vs.length = l.length ∧ ∀ (j : Nat) (v : ev_V), l[j]? = some v → ∃ w, vs[j]? = some w ∧ e2_rel ads r v w := by
  rcases h with ⟨-, h⟩ | ⟨h, -⟩ | ⟨h, -⟩ | ⟨h, -⟩ | ⟨h, -⟩ | ⟨h, -⟩ | ⟨h, -⟩ | ⟨h, -⟩
  · exact h
  all_goals omega
theorem e2_relC.arr {cA : e2_cA} {ads r : List Nat} {tag : Nat} {l : List ev_V} {e : va_E} (h : e2_relC cA ads r tag l e) (ht : 50 ≤ tag) (ht2 : tag ≤ 52) : ∃ f : Nat → Int32, e = .inl (cA.1 (tag - 50), l.length, .inl f) ∧ ∀ (j : Nat) (v : ev_V), l[j]? = some v → e2_rel ads r v (.int (f j)) := by
  rcases h with ⟨h, -⟩ | ⟨-, -, h⟩ | ⟨h, -⟩ | ⟨h, -⟩ | ⟨h, -⟩ | ⟨h, -⟩ | ⟨h, -⟩ | ⟨h, -⟩
  · omega
  · exact h
  all_goals omega
theorem e2_relC.lng {cA : e2_cA} {ads r : List Nat} {tag : Nat} {l : List ev_V} {e : va_E} (h : e2_relC cA ads r tag l e) (ht : tag = 53) : ∃ (n b : Nat) (f : Nat → Int64), l = [(0, n, b)] ∧ e = .inl (cA.1 3, n, .inr (.inl f)) := by
  rcases h with ⟨h, -⟩ | ⟨-, h, -⟩ | ⟨-, h⟩ | ⟨h, -⟩ | ⟨h, -⟩ | ⟨h, -⟩ | ⟨h, -⟩ | ⟨h, -⟩
  · omega
  · omega
  · exact h
  all_goals omega
theorem e2_relC.uni {cA : e2_cA} {ads r : List Nat} {tag : Nat} {l : List ev_V} {e : va_E} (h : e2_relC cA ads r tag l e) (ht : 54 ≤ tag) (ht2 : tag ≤ 56) : ∃ (n b lo hi : Nat) (f : Nat → Int32), l = [(0, n, b), (11, lo, hi)] ∧ e = .inl (cA.1 (tag - 54), n, .inl f) ∧ ∀ j, j < n → lo ≤ ev_key (f j) ∧ ev_key (f j) ≤ hi := by
  rcases h with ⟨h, -⟩ | ⟨-, h, -⟩ | ⟨h, -⟩ | ⟨-, -, h⟩ | ⟨h, -⟩ | ⟨h, -⟩ | ⟨h, -⟩ | ⟨h, -⟩
  · omega
  · omega
  · omega
  · exact h
  all_goals omega
theorem e2_relC.uni7 {cA : e2_cA} {ads r : List Nat} {tag : Nat} {l : List ev_V} {e : va_E} (h : e2_relC cA ads r tag l e) (ht : tag = 57) : ∃ (n b lo hi c : Nat) (f : Nat → Int32), l = [(0, n, b), (11, lo, hi), (1, 1, c)] ∧ e = .inl (cA.1 0, n, .inl f) ∧ ∀ j, j < n → lo ≤ ev_key (f j) ∧ ev_key (f j) ≤ hi := by
  rcases h with ⟨h, -⟩ | ⟨-, h, -⟩ | ⟨h, -⟩ | ⟨-, h, -⟩ | ⟨h, -⟩ | ⟨-, h⟩ | ⟨h, -⟩ | ⟨h, -⟩
  · omega
  · omega
  · omega
  · omega
  · omega
  · exact h
  · omega
  · omega
theorem e2_relC.arr8 {cA : e2_cA} {ads r : List Nat} {tag : Nat} {l : List ev_V} {e : va_E} (h : e2_relC cA ads r tag l e) (ht : tag = 58) : ∃ f : Nat → Int32, e = .inl (cA.1 0, l.length, .inl f) ∧ ∀ (j : Nat) (v : ev_V), l[j]? = some v → e2_rel ads r v (.int (f j)) := by
  rcases h with ⟨h, -⟩ | ⟨-, h, -⟩ | ⟨h, -⟩ | ⟨-, h, -⟩ | ⟨h, -⟩ | ⟨h, -⟩ | ⟨-, h⟩ | ⟨h, -⟩
  · omega
  · omega
  · omega
  · omega
  · omega
  · omega
  · exact h
  · omega
theorem e2_relC.lng9 {cA : e2_cA} {ads r : List Nat} {tag : Nat} {l : List ev_V} {e : va_E} (h : e2_relC cA ads r tag l e) (ht : tag = 59) : ∃ f : Nat → Int64, e = .inl (cA.1 3, l.length, .inr (.inl f)) ∧ ∀ (j : Nat) (v : ev_V), l[j]? = some v → e2_rel ads r v (.long (f j)) := by
  rcases h with ⟨h, -⟩ | ⟨-, h, -⟩ | ⟨h, -⟩ | ⟨-, h, -⟩ | ⟨h, -⟩ | ⟨h, -⟩ | ⟨h, -⟩ | ⟨-, h⟩
  · omega
  · omega
  · omega
  · omega
  · omega
  · omega
  · omega
  · exact h
theorem e2_drop_t : ∀ {n : Nat} {f : List ev_V} {k : List ev_V → Bool}, e2_drop n f k = true → ∃ f', k f' = true ∧ ∀ j, f[n + j]? = f'[j]? := by
  intro n
  induction n with
  | zero => intro f k h; exact ⟨f, h, fun j => by rw [Nat.zero_add]⟩
  | succ n ih =>
    intro f k h
    obtain ⟨x, q, rfl, h1⟩ := e2_1_t (show e2_1 f (fun _ f' => e2_drop n f' k) = true from h)
    obtain ⟨f', g1, g2⟩ := ih h1
    exact ⟨f', g1, fun j => by rw [show n + 1 + j = (n + j) + 1 by omega, List.getElem?_cons_succ]; exact g2 j⟩
theorem e2_hull_t {E : e2_E} : ∀ {n : Nat} {l : List ev_V} {x y : Nat} {k}, e2_hull E n l x y k = true → ∃ x' y', k x' y' = true ∧ x' ≤ x ∧ y ≤ y' ∧ ∀ j, j < n → ∃ v, l[j]? = some v ∧ ∀ (ads r : List Nat) (X : Int32), e2_sat r E → e2_rel ads r v (.int X) → x' ≤ ev_key X ∧ ev_key X ≤ y' := by
  intro n
  induction n with
  | zero => intro l x y k h; exact ⟨x, y, h, Nat.le_refl _, Nat.le_refl _, fun j hj => by omega⟩
  | succ n ih =>
    intro l x y k h
    obtain ⟨v, q, rfl, h1⟩ := e2_1_t (show e2_1 l (fun v r => e2_up E v fun z w => ev_fN (e2_mn x z) fun x' => ev_fN (e2_mx y w) fun y' => e2_hull E n r x' y' k) = true from h)
    obtain ⟨-, z, w, h2, hb⟩ := e2_up_t h1
    rw [ev_fN_eq, ev_fN_eq, e2_mn_eq, e2_mx_eq] at h2
    obtain ⟨x', y', g1, g2, g3, g4⟩ := ih h2
    have a1 : min x z ≤ x := Nat.min_le_left _ _
    have a2 : min x z ≤ z := Nat.min_le_right _ _
    have a3 : y ≤ max y w := Nat.le_max_left _ _
    have a4 : w ≤ max y w := Nat.le_max_right _ _
    refine ⟨x', y', g1, by omega, by omega, fun j hj => ?_⟩
    cases j with
    | zero => exact ⟨v, rfl, fun ads r X hs hr => by obtain ⟨b1, b2⟩ := hb ads r X hs hr; exact ⟨by omega, by omega⟩⟩
    | succ j => exact g4 j (by omega)
theorem e2_weak_t {x y : Nat} : ∀ {n : Nat} {l : List ev_V} {k : Bool}, e2_weak n x y l k = true → k = true ∧ ∀ j, j < n → ∃ lo hi, l[j]? = some (11, lo, hi) ∧ lo ≤ x ∧ y ≤ hi := by
  intro n
  induction n with
  | zero => intro l k h; exact ⟨h, fun j hj => by omega⟩
  | succ n ih =>
    intro l k h
    obtain ⟨⟨t, lo, hi⟩, q, rfl, h1⟩ := e2_1_t (show e2_1 l (fun v r => e2_p v fun t lo hi => e2_if (Nat.beq t 11) (e2_if (Nat.ble lo x) (e2_if (Nat.ble y hi) (e2_weak n x y r k)))) = true from h)
    obtain ⟨t1, h2⟩ := e2_if_t h1
    obtain ⟨t2, h3⟩ := e2_if_t h2
    obtain ⟨t3, h4⟩ := e2_if_t h3
    obtain ⟨g1, g2⟩ := ih h4
    refine ⟨g1, fun j hj => ?_⟩
    cases j with
    | zero => exact ⟨lo, hi, by rw [show t = 11 from Nat.eq_of_beq_eq_true t1]; rfl, Nat.le_of_ble_eq_true t2, Nat.le_of_ble_eq_true t3⟩
    | succ j => exact g2 j (by omega)
/-- an element of an array is set: what can be said of the world then -/
theorem e2_ast_t {tag : Nat} (ht : 50 ≤ tag) (ht2 : tag ≤ 52) {E : e2_E} {h : ev_H} {a : Nat} {iv v : ev_V} {k} (ha : a < 133) (hh : e2_ast tag E h a (ev_hg h a).1 (ev_hg h a).2 iv v k = true) : e2_isI iv.1 = true ∧ ∀ {D : va_G} {cA : e2_cA} {A : Nat → Prop} {ads r : List Nat} {ws : va_W} {H : Heap} {q : Nat} {e : va_E}, e2_sat r E → e2_wo D cA A ads r ws h H → ws[a]? = some (q, e) → e2_relC cA ads r (ev_hg h a).1 (ev_hg h a).2 e → ∀ {X V : Int32}, e2_rel ads r iv (.int X) → e2_rel ads r v (.int V) → ∃ N f, e = .inl (cA.1 (tag - 50), N, .inl f) ∧ vp_in X N ∧ ∃ h', k h' = true ∧ ∀ H1, va_P D en_classes (ws.set a (q, .inl (cA.1 (tag - 50), N, .inl (upd f X.toNatClampNeg V)))) H1 → va_D A (ws.set a (q, .inl (cA.1 (tag - 50), N, .inl (upd f X.toNatClampNeg V)))) → e2_wo D cA A ads r (ws.set a (q, .inl (cA.1 (tag - 50), N, .inl (upd f X.toNatClampNeg V)))) h' H1 := by
  obtain ⟨h0, i, j, hh1, hj, hb⟩ := e2_ix_t hh
  refine ⟨h0, fun {D cA A ads r ws H q e} hs hwo hq hrel {X V} hX hV => ?_⟩
  obtain ⟨n, n1, n2, rfl⟩ := hb ads r X hs hX
  have hcl : (ev_i n).toNatClampNeg = n := ev_cl (by omega)
  rw [hcl]
  rcases e2_el_t hh1 with ⟨t1, hh2⟩ | ⟨-, hh2⟩
  · have t1 : (ev_hg h a).1 = tag := Nat.eq_of_beq_eq_true t1
    obtain ⟨f, rfl, e5⟩ := hrel.arr (by omega) (by omega)
    rw [t1] at hq ⊢
    rcases e2_el_t hh2 with ⟨t2, hh3⟩ | ⟨-, hh3⟩
    · have t2 : i = j := Nat.eq_of_beq_eq_true t2
      obtain ⟨g1, hh4⟩ := e2_put_t hh3
      refine ⟨_, f, rfl, ev_in (by omega) (by omega), _, hh4, fun H1 hP hD => ?_⟩
      refine hwo.set ha hq _ _ (Or.inr (Or.inl ⟨by omega, by omega, _, by rw [t1, List.length_set], fun j' v' hj' => ?_⟩)) hP hD
      rw [List.getElem?_set] at hj'
      by_cases hk : i = j'
      · rw [if_pos hk, if_pos g1] at hj'
        cases hj'
        simp only [upd, if_pos (show j' = n by omega)]
        exact hV
      · rw [if_neg hk] at hj'
        simp only [upd, if_neg (show ¬ j' = n by omega)]
        exact e5 j' v' hj'
    · obtain ⟨-, x, y, hh4, hv⟩ := e2_rng_t hh3
      obtain ⟨l', hh5, hd⟩ := e2_drop_t hh4
      obtain ⟨hh6, hw⟩ := e2_weak_t hh5
      obtain ⟨v1, v2⟩ := hv ads r V hs hV
      obtain ⟨lo, hi, w1, w2, w3⟩ := hw (n - i) (show n - i < (j - i) + 1 by omega)
      have hat : (ev_hg h a).2[n]? = some (11, lo, hi) := by rw [← w1, ← hd (n - i), show i + (n - i) = n by omega]
      have hlt := (List.getElem?_eq_some_iff.mp hat).1
      refine ⟨_, f, rfl, ev_in (by omega) hlt, h, hh6, fun H1 hP hD => ?_⟩
      refine hwo.keep ha hq (Or.inr (Or.inl ⟨by omega, by omega, _, by rw [t1], fun j' v' hj' => ?_⟩)) hP hD
      by_cases hk : j' = n
      · subst hk
        rw [hat] at hj'
        cases hj'
        simp only [upd, if_pos]
        exact ⟨V, rfl, by show lo ≤ _; omega, by show _ ≤ hi; omega⟩
      · simp only [upd, if_neg hk]
        exact e5 j' v' hj'
  · obtain ⟨t1, hh3⟩ := e2_if_t hh2
    have t1 : (ev_hg h a).1 = tag + 4 := Nat.eq_of_beq_eq_true t1
    obtain ⟨N, b, lo, hi, f, l1, rfl, l3⟩ := hrel.uni (by omega) (by omega)
    rw [l1] at hh3
    obtain ⟨n0, u, s', l2, hh4⟩ := e2_2_t hh3
    cases l2
    obtain ⟨t2, hh5⟩ := e2_if_t hh4
    have t2 : j < N := Nat.le_of_ble_eq_true t2
    obtain ⟨-, x, y, hh6, hv⟩ := e2_rng_t hh5
    obtain ⟨t3, hh7⟩ := e2_if_t hh6
    obtain ⟨t4, hh8⟩ := e2_if_t hh7
    have t3 : lo ≤ x := Nat.le_of_ble_eq_true t3
    have t4 : y ≤ hi := Nat.le_of_ble_eq_true t4
    obtain ⟨v1, v2⟩ := hv ads r V hs hV
    rw [t1, show tag + 4 - 54 = tag - 50 by omega] at hq ⊢
    refine ⟨N, f, rfl, ev_in (by omega) (by omega), h, hh8, fun H1 hP hD => ?_⟩
    refine hwo.keep ha hq (Or.inr (Or.inr (Or.inr (Or.inl ⟨by omega, by omega, N, b, lo, hi, _, l1, by rw [t1, show tag + 4 - 54 = tag - 50 by omega], fun j' hj' => ?_⟩)))) hP hD
    by_cases hk : j' = n
    · simp only [upd, if_pos hk]
      exact ⟨by omega, by omega⟩
    · simp only [upd, if_neg hk]
      exact l3 j' hj'
theorem e2_nar_t {E : e2_E} {lo hi : Nat} {v : ev_V} {k} {g : Int32 → Int32} (hg : ∀ X, lo ≤ ev_key (g X) ∧ ev_key (g X) ≤ hi) (hi' : ∀ X, lo ≤ ev_key X → ev_key X ≤ hi → g X = X) (hh : e2_nar E lo hi v k = true) : e2_isI v.1 = true ∧ ∃ v', k v' = true ∧ ∀ (ads r : List Nat) (X : Int32), e2_sat r E → e2_rel ads r v (.int X) → e2_rel ads r v' (.int (g X)) := by
  obtain ⟨h1, x, y, hh1, hb⟩ := e2_rng_t hh
  refine ⟨h1, ?_⟩
  rcases e2_el_t hh1 with ⟨t1, hh2⟩ | ⟨-, hh2⟩
  · simp only [Bool.and_eq_true] at t1
    have a1 : lo ≤ x := Nat.le_of_ble_eq_true t1.1
    have a2 : y ≤ hi := Nat.le_of_ble_eq_true t1.2
    refine ⟨v, hh2, fun ads r X hs hr => ?_⟩
    obtain ⟨b1, b2⟩ := hb ads r X hs hr
    rw [hi' X (by omega) (by omega)]
    exact hr
  · exact ⟨_, hh2, fun ads r X hs hr => ⟨g X, rfl, (hg X).1, (hg X).2⟩⟩
theorem e2_nb1 (X : Int32) : 2147483520 ≤ ev_key (vp_nar .byte X) ∧ ev_key (vp_nar .byte X) ≤ 2147483775 := by
  have e0 : vp_nar .byte X = X.toInt8.toInt32 := rfl
  rw [e0]
  have c := ev_key_int (X.toInt8.toInt32)
  rw [Int8.toInt_toInt32] at c
  have l1 := Int8.le_toInt X.toInt8
  have l2 := Int8.toInt_lt X.toInt8
  constructor <;> omega
theorem e2_nb2 (X : Int32) (h1 : 2147483520 ≤ ev_key X) (h2 : ev_key X ≤ 2147483775) : vp_nar .byte X = X := by
  have e0 : vp_nar .byte X = X.toInt8.toInt32 := rfl
  rw [e0]
  apply Int32.toInt_inj.mp
  rw [Int8.toInt_toInt32, Int32.toInt_toInt8, Int.bmod_def]
  have c := ev_key_int X
  split <;> omega
theorem e2_nz0 (X : Int32) : vp_nar .boolean X = X &&& 1 := rfl
theorem e2_nz1 (X : Int32) : 2147483648 ≤ ev_key (vp_nar .boolean X) ∧ ev_key (vp_nar .boolean X) ≤ 2147483649 := by
  rw [e2_nz0]
  have e2 := e2_key_u (X &&& 1)
  rw [e2_u_and, show ev_u (1 : Int32) = 1 from by decide +kernel] at e2
  have e4 : ev_u X &&& 1 ≤ 1 := Nat.and_le_right
  obtain ⟨n, hn⟩ : ∃ n, n = ev_u X &&& 1 := ⟨_, rfl⟩
  rw [← hn] at e2 e4
  constructor <;> omega
theorem e2_nz2 (X : Int32) (h1 : 2147483648 ≤ ev_key X) (h2 : ev_key X ≤ 2147483649) : vp_nar .boolean X = X := by
  have : X = 0 ∨ X = 1 := by
    have hq : ev_key X = 2147483648 ∨ ev_key X = 2147483649 := by omega
    rcases hq with h | h
    · exact Or.inl (ev_key_eqI.mpr (h.trans ev_key_0.symm))
    · exact Or.inr (ev_key_eqI.mpr (h.trans (by decide +kernel)))
  rcases this with rfl | rfl <;> rfl
section E2Heap
variable {p : Program} {l : Launch} {e : Env} {R : Room} {s : State} {m : MethodId} {args : Array Value} {below : List Frame} {meth : Method} {c : Code} {Q : State → Prop}
variable {cc : ByteArray} {own : String} {nL : Nat} {D : va_G} {cA : e2_cA} {A : Nat → Prop} {ads r0 : List Nat} {d : Nat} {call : e2_Call} {F : e2_F} {pc len : Nat}
theorem e2s_getf {ci k : Nat} (hci : ci < 50) (hrow : ∀ (H : Heap) (locs : List Loc) (k' n : Nat) (ls : Array Slot) (rest : List Value) (ws : va_W) (a q0 : Nat) (fs : List Value) (v : Value), va_P D en_classes ws H → ws[q0]? = some (a, .inr (ci, fs)) → fs[k]? = some v → W p l e R s m args below meth c H locs k' n Q (F0 m (pc + len) ls (v :: rest)) → W p l e R s m args below meth c H locs k' n Q (F0 m pc ls (.ref a :: rest))) : e2_sd p l e R s m args below meth c Q nL D cA A ads r0 call F (o2_getf ci k) pc len := by
  intro Kn Kj al st E h hh hn hj r ws H locs ls vs hp hs hwo hS hfr hst
  obtain ⟨vo, st', rfl, hh1⟩ := e2_1_t hh
  obtain ⟨t1, t2, hh2⟩ := e2_cell_t hh1
  obtain ⟨t3, hh3⟩ := e2_if_t hh2
  have t3 : (ev_hg h vo.2.1).1 = ci := Nat.eq_of_beq_eq_true t3
  obtain ⟨v, t4, hh4⟩ := e2_get_t hh3
  have hh4 : e2_el (Nat.beq v.1 11 || (Nat.beq v.1 13 || Nat.beq v.1 5)) (e2_nm E v fun v' E' => e2_put h vo.2.1 (ev_hg h vo.2.1).1 (ev_hg h vo.2.1).2 k v' fun h' => Kn al (v' :: st') E' h') (e2_if (!(Nat.beq v.1 7)) (Kn al (v :: st') E h)) = true := hh4
  have hq := hst.cons
  clear hst
  obtain ⟨w', vs, rfl, q3, -, hst⟩ := hq
  obtain ⟨q, e1, rfl⟩ := q3.ref t1
  obtain ⟨en, e2, e3⟩ := hwo.cell t2 e1
  obtain ⟨fs, rfl, e4, e5⟩ := e3.obj (by omega)
  obtain ⟨w, e6, e7⟩ := e5 k v t4
  have e2' := e2
  rw [t3] at e2'
  rcases e2_el_t hh4 with ⟨z, hh5⟩ | ⟨-, hh5⟩
  · obtain ⟨v', E', hh6, hk, hx⟩ := e2_nm_t hh5
    obtain ⟨t5, hh7⟩ := e2_put_t hh6
    obtain ⟨r', hp', hs', hr'⟩ := hx ads r w hs e7
    have z : v.1 = 11 ∨ v.1 = 13 ∨ v.1 = 5 := by
      simp only [Bool.or_eq_true] at z
      rcases z with z | z | z
      · exact Or.inl (Nat.eq_of_beq_eq_true z)
      · exact Or.inr (Or.inl (Nat.eq_of_beq_eq_true z))
      · exact Or.inr (Or.inr (Nat.eq_of_beq_eq_true z))
    have h7 : v'.1 ≠ 7 := by
      rcases hk with ⟨k1, -⟩ | ⟨k0, k1⟩ | ⟨-, -, k1, k2, k3⟩ <;> omega
    refine hrow _ _ _ _ _ _ ws q _ fs w hwo.2.2.2.1 e2' e6 (hn _ _ _ _ hh7 r' ws H locs ls _ (e2_ext hp hp') hs' ((hwo.mono hp').abs t2 e2 _ _ (Or.inl ⟨by omega, fs, rfl, by rw [List.length_set]; exact e4, fun j u hj => ?_⟩)) hS (hfr.mono hp') ⟨hr', h7, hst.mono hp'⟩)
    rw [List.getElem?_set] at hj
    by_cases hjk : k = j
    · subst hjk
      rw [if_pos rfl, if_pos t5] at hj
      cases hj
      exact ⟨w, e6, hr'⟩
    · rw [if_neg hjk] at hj
      obtain ⟨w2, g1, g2⟩ := e5 j u hj
      exact ⟨w2, g1, g2.mono hp'⟩
  · obtain ⟨t5, hh6⟩ := e2_if_t hh5
    have h7 : v.1 ≠ 7 := fun z => by rw [z] at t5; exact absurd t5 (by decide)
    exact hrow _ _ _ _ _ _ ws q _ fs w hwo.2.2.2.1 e2' e6 (hn _ _ _ _ hh6 r ws H locs ls _ hp hs hwo hS hfr ⟨e7, h7, hst⟩)
theorem e2_kd_t {E : e2_E} {kd : Nat} {v : ev_V} {k : Bool} (hh : e2_kd E kd v k = true) : k = true ∧ v.1 ≠ 9 ∧ ∀ (ads r : List Nat) (w : Value), e2_sat r E → e2_rel ads r v w → ev_fits kd w := by
  match kd, hh with
  | 0, hh =>
    obtain ⟨h1, h2⟩ := e2_if_t hh
    exact ⟨h2, (e2_I7 h1).2, fun ads r w _ hr => hr.intI h1⟩
  | 1, hh =>
    obtain ⟨h0, x, y, h1, hb⟩ := e2_rng_t (show e2_rng E v (fun x y => e2_if (Nat.ble 2147483648 x) (e2_if (Nat.ble y 2147483649) k)) = true from hh)
    obtain ⟨t1, h2⟩ := e2_if_t h1
    obtain ⟨t2, h3⟩ := e2_if_t h2
    have t1 : 2147483648 ≤ x := Nat.le_of_ble_eq_true t1
    have t2 : y ≤ 2147483649 := Nat.le_of_ble_eq_true t2
    refine ⟨h3, (e2_I7 h0).2, fun ads r w hs hr => ?_⟩
    obtain ⟨X, rfl⟩ := hr.intI h0
    obtain ⟨b1, b2⟩ := hb ads r X hs hr
    refine ⟨X, rfl, ?_⟩
    have : ev_key X = 2147483648 ∨ ev_key X = 2147483649 := by omega
    rcases this with h | h
    · exact Or.inl (ev_key_eqI.mpr (h.trans ev_key_0.symm))
    · exact Or.inr (ev_key_eqI.mpr (h.trans (by decide +kernel)))
  | 2, hh =>
    obtain ⟨h1, h2⟩ := e2_if_t hh
    obtain ⟨t, a, b⟩ := v
    have h1 : t = 2 ∨ t = 3 := by
      simp only [Bool.or_eq_true] at h1
      rcases h1 with h | h
      · exact Or.inl (Nat.eq_of_beq_eq_true h)
      · exact Or.inr (Nat.eq_of_beq_eq_true h)
    refine ⟨h2, by show t ≠ 9; omega, fun ads r w _ hr => ?_⟩
    rcases h1 with rfl | rfl
    · obtain ⟨q, -, rfl⟩ := hr
      exact Or.inr ⟨q, rfl⟩
    · exact Or.inl hr
  | k' + 3, hh =>
    obtain ⟨h1, h2⟩ := e2_if_t hh
    exact ⟨h2, (e2_L7 h1).2, fun ads r w _ hr => hr.long h1⟩
theorem e2s_putf {ci k kd : Nat} (hci : ci < 50) (hrow : ∀ (H : Heap) (locs : List Loc) (k' n : Nat) (ls : Array Slot) (rest : List Value) (ws : va_W) (a q0 : Nat) (fs : List Value) (v : Value), va_P D en_classes ws H → va_D A ws → va_S A s.heap H locs → ws[q0]? = some (a, .inr (ci, fs)) → k < fs.length → ev_fits kd v → (∀ (H1 : Heap) (locs1 : List Loc), va_P D en_classes (ws.set q0 (a, .inr (ci, fs.set k v))) H1 → va_D A (ws.set q0 (a, .inr (ci, fs.set k v))) → va_S A s.heap H1 locs1 → W p l e R s m args below meth c H1 locs1 k' n Q (F0 m (pc + len) ls rest)) → W p l e R s m args below meth c H locs k' n Q (F0 m pc ls (v :: .ref a :: rest))) : e2_sd p l e R s m args below meth c Q nL D cA A ads r0 call F (o2_putf ci k kd) pc len := by
  intro Kn Kj al st E h hh hn hj r ws H locs ls vs hp hs hwo hS hfr hst
  obtain ⟨v, vo, st', rfl, hh1⟩ := e2_2_t hh
  obtain ⟨t1, t2, hh2⟩ := e2_cell_t hh1
  obtain ⟨t3, hh3⟩ := e2_if_t hh2
  have t3 : (ev_hg h vo.2.1).1 = ci := Nat.eq_of_beq_eq_true t3
  obtain ⟨hh4, -, hf⟩ := e2_kd_t hh3
  obtain ⟨t5, hh5⟩ := e2_put_t hh4
  have hq := hst.cons
  clear hst
  obtain ⟨w, vs, rfl, q2, -, hst⟩ := hq
  have hq := hst.cons
  clear hst
  obtain ⟨w', vs, rfl, q3, -, hst⟩ := hq
  obtain ⟨q, e1, rfl⟩ := q3.ref t1
  obtain ⟨en, e2, e3⟩ := hwo.cell t2 e1
  obtain ⟨fs, rfl, e4, e5⟩ := e3.obj (by omega)
  rw [t3] at e2
  refine hrow _ _ _ _ _ _ ws q _ fs w hwo.2.2.2.1 hwo.2.2.2.2.1 hS e2 (by omega) (hf ads r w hs q2) fun H1 locs1 hP hD hS1 => ?_
  refine hn _ _ _ _ hh5 r _ H1 locs1 ls _ hp hs (hwo.set t2 e2 _ _ ?_ hP hD) hS1 hfr hst
  refine Or.inl ⟨by omega, fs.set k w, by rw [t3], by rw [List.length_set, List.length_set]; exact e4, fun j v' hj' => ?_⟩
  rw [List.getElem?_set] at hj' ⊢
  by_cases hk : k = j
  · subst hk
    rw [if_pos rfl, if_pos t5] at hj'
    cases hj'
    rw [if_pos rfl, if_pos (by omega)]
    exact ⟨w, rfl, q2⟩
  · rw [if_neg hk] at hj' ⊢
    exact e5 j v' hj'
theorem e2s_ald0 {lo hi : Nat} (hlo : 50 ≤ lo) (hhi : hi ≤ 52) (hrow : ∀ (t : Nat), lo ≤ 50 + t → 50 + t ≤ hi → ∀ (H : Heap) (locs : List Loc) (k' n : Nat) (ls : Array Slot) (rest : List Value) (ws : va_W) (a q0 N : Nat) (f : Nat → Int32) (i : Int32), va_P D en_classes ws H → ws[q0]? = some (a, .inl (cA.1 t, N, .inl f)) → vp_in i N → W p l e R s m args below meth c H locs k' n Q (F0 m (pc + len) ls (.int (f i.toNatClampNeg) :: rest)) → W p l e R s m args below meth c H locs k' n Q (F0 m pc ls (.int i :: .ref a :: rest))) : e2_sd p l e R s m args below meth c Q nL D cA A ads r0 call F (o2_ald0 lo hi) pc len := by
  intro Kn Kj al st E h hh hn hj r ws H locs ls vs hp hs hwo hS hfr hst
  obtain ⟨iv, vo, st', rfl, hh1⟩ := e2_2_t hh
  obtain ⟨t1, t2, hh2⟩ := e2_cell_t hh1
  obtain ⟨i0, i, j, hh3, hj6, hb⟩ := e2_ix_t hh2
  have hq := hst.cons
  clear hst
  obtain ⟨w, vs, rfl, q2, -, hst⟩ := hq
  have hq := hst.cons
  clear hst
  obtain ⟨w', vs, rfl, q3, -, hst⟩ := hq
  obtain ⟨X, rfl⟩ := q2.intI i0
  obtain ⟨n, n1, n2, rfl⟩ := hb ads r X hs q2
  obtain ⟨q, e1, rfl⟩ := q3.ref t1
  obtain ⟨en, e2, e3⟩ := hwo.cell t2 e1
  have hcl : (ev_i n).toNatClampNeg = n := ev_cl (by omega)
  rcases e2_el_t hh3 with ⟨t3, hh4⟩ | ⟨-, hh4⟩
  · simp only [Bool.and_eq_true] at t3
    have t3a : lo ≤ (ev_hg h vo.2.1).1 := Nat.le_of_ble_eq_true t3.1
    have t3b : (ev_hg h vo.2.1).1 ≤ hi := Nat.le_of_ble_eq_true t3.2
    obtain ⟨f, rfl, e5⟩ := e3.arr (by omega) (by omega)
    rcases e2_el_t hh4 with ⟨t4, hh5⟩ | ⟨-, hh5⟩
    · have t4 : i = j := Nat.eq_of_beq_eq_true t4
      obtain ⟨v, b2, hh6⟩ := e2_get_t hh5
      have hh6 : e2_el (Nat.beq v.1 11 || Nat.beq v.1 13) (e2_nm E v fun v' E' => e2_put h vo.2.1 (ev_hg h vo.2.1).1 (ev_hg h vo.2.1).2 i v' fun h' => Kn al (v' :: st') E' h') (e2_el (Nat.beq v.1 15) (e2_up E v fun x y => e2_el (Nat.beq x 2147483649) (e2_nm E (11, x, y) fun v' E' => e2_put h vo.2.1 (ev_hg h vo.2.1).1 (ev_hg h vo.2.1).2 i v' fun h' => Kn al (v' :: st') E' h') (Kn al ((11, x, y) :: st') E h)) (e2_if (Nat.ble v.1 1) (Kn al (v :: st') E h))) = true := hh6
      have hl := (List.getElem?_eq_some_iff.mp b2).1
      have hni : n = i := by omega
      have e7 := e5 _ v b2
      rcases e2_el_t hh6 with ⟨z, hh7⟩ | ⟨-, hh7⟩
      · obtain ⟨v', E', hh8, hk, hx⟩ := e2_nm_t hh7
        obtain ⟨t5, hh9⟩ := e2_put_t hh8
        obtain ⟨r', hp', hs', hr'⟩ := hx ads r _ hs e7
        have z : v.1 = 11 ∨ v.1 = 13 := by
          simp only [Bool.or_eq_true] at z
          rcases z with z | z
          · exact Or.inl (Nat.eq_of_beq_eq_true z)
          · exact Or.inr (Nat.eq_of_beq_eq_true z)
        have h7 : v'.1 ≠ 7 := by rcases hk with ⟨k1, -⟩ | ⟨k0, k1⟩ | ⟨-, -, k1, k2, k3⟩ <;> omega
        refine hrow ((ev_hg h vo.2.1).1 - 50) (by omega) (by omega) _ _ _ _ _ _ ws q _ _ f _ hwo.2.2.2.1 e2 (ev_in (by omega) (by omega)) (hn _ _ _ _ hh9 r' ws H locs ls _ (e2_ext hp hp') hs' ((hwo.mono hp').abs t2 e2 _ _ (Or.inr (Or.inl ⟨by omega, by omega, f, by rw [List.length_set], fun j' u hj' => ?_⟩))) hS (hfr.mono hp') ⟨by rw [hcl, hni]; exact hr', h7, hst.mono hp'⟩)
        rw [List.getElem?_set] at hj'
        by_cases hjk : i = j'
        · subst hjk
          rw [if_pos rfl, if_pos t5] at hj'
          cases hj'
          exact hr'
        · rw [if_neg hjk] at hj'
          exact (e5 j' u hj').mono hp'
      · rcases e2_el_t hh7 with ⟨-, hh8⟩ | ⟨-, hh7b⟩
        · obtain ⟨-, x, y, hh8b, hb9⟩ := e2_up_t hh8
          obtain ⟨c1, c2⟩ := hb9 ads r _ hs e7
          rcases e2_el_t hh8b with ⟨-, hh8c⟩ | ⟨-, hh9⟩
          · obtain ⟨v', E', hh8d, hk, hx⟩ := e2_nm_t hh8c
            obtain ⟨t5, hh9⟩ := e2_put_t hh8d
            obtain ⟨r', hp', hs', hr'⟩ := hx ads r (.int (f i)) hs ⟨f i, rfl, c1, c2⟩
            have h7 : v'.1 ≠ 7 := by
              rcases hk with ⟨k1, -⟩ | ⟨k0, k1⟩ | ⟨-, -, k1, k2, k3⟩
              · omega
              · omega
              · exact absurd rfl k1
            refine hrow ((ev_hg h vo.2.1).1 - 50) (by omega) (by omega) _ _ _ _ _ _ ws q _ _ f _ hwo.2.2.2.1 e2 (ev_in (by omega) (by omega)) (hn _ _ _ _ hh9 r' ws H locs ls _ (e2_ext hp hp') hs' ((hwo.mono hp').abs t2 e2 _ _ (Or.inr (Or.inl ⟨by omega, by omega, f, by rw [List.length_set], fun j' u hj' => ?_⟩))) hS (hfr.mono hp') ⟨by rw [hcl, hni]; exact hr', h7, hst.mono hp'⟩)
            rw [List.getElem?_set] at hj'
            by_cases hjk : i = j'
            · subst hjk
              rw [if_pos rfl, if_pos t5] at hj'
              cases hj'
              exact hr'
            · rw [if_neg hjk] at hj'
              exact (e5 j' u hj').mono hp'
          exact hrow ((ev_hg h vo.2.1).1 - 50) (by omega) (by omega) _ _ _ _ _ _ ws q _ _ f _ hwo.2.2.2.1 e2 (ev_in (by omega) (by omega)) (hn _ _ _ _ hh9 r ws H locs ls _ hp hs hwo hS hfr ⟨by rw [hcl, hni]; exact ⟨f i, rfl, c1, c2⟩, by show (11 : Nat) ≠ 7; decide, hst⟩)
        obtain ⟨t5, hh8⟩ := e2_if_t hh7b
        have t5 : v.1 ≤ 1 := Nat.le_of_ble_eq_true t5
        exact hrow ((ev_hg h vo.2.1).1 - 50) (by omega) (by omega) _ _ _ _ _ _ ws q _ _ f _ hwo.2.2.2.1 e2 (ev_in (by omega) (by omega)) (hn _ _ _ _ hh8 r ws H locs ls _ hp hs hwo hS hfr ⟨by rw [hcl, hni]; exact e7, by omega, hst⟩)
    · obtain ⟨l', hh6, hd⟩ := e2_drop_t hh5
      obtain ⟨x, y, hh7, -, -, hw⟩ := e2_hull_t hh6
      obtain ⟨v, w1, w2⟩ := hw (n - i) (show n - i < (j - i) + 1 by omega)
      have hat : (ev_hg h vo.2.1).2[n]? = some v := by rw [← w1, ← hd (n - i), show i + (n - i) = n by omega]
      have hlt := (List.getElem?_eq_some_iff.mp hat).1
      have e7 := e5 n v hat
      obtain ⟨b1, b2⟩ := w2 ads r _ hs e7
      exact hrow ((ev_hg h vo.2.1).1 - 50) (by omega) (by omega) _ _ _ _ _ _ ws q _ _ f _ hwo.2.2.2.1 e2 (ev_in (by omega) hlt) (hn _ _ _ _ hh7 r ws H locs ls _ hp hs hwo hS hfr ⟨by rw [hcl]; exact ⟨f n, rfl, b1, b2⟩, by show (11 : Nat) ≠ 7; decide, hst⟩)
  · obtain ⟨t3, hh5⟩ := e2_if_t hh4
    simp only [Bool.and_eq_true] at t3
    have t3a : lo + 4 ≤ (ev_hg h vo.2.1).1 := Nat.le_of_ble_eq_true t3.1
    have t3b : (ev_hg h vo.2.1).1 ≤ hi + 4 := Nat.le_of_ble_eq_true t3.2
    obtain ⟨N, b, x, y, f, l1, rfl, l3⟩ := e3.uni (by omega) (by omega)
    rw [l1] at hh5
    obtain ⟨n0, u, s', l2, hh6⟩ := e2_2_t hh5
    cases l2
    obtain ⟨t4, hh7⟩ := e2_if_t hh6
    have t4 : j < N := Nat.le_of_ble_eq_true t4
    obtain ⟨b1, b2⟩ := l3 n (by omega)
    exact hrow ((ev_hg h vo.2.1).1 - 54) (by omega) (by omega) _ _ _ _ _ _ ws q _ _ f _ hwo.2.2.2.1 e2 (ev_in (by omega) (by omega)) (hn _ _ _ _ hh7 r ws H locs ls _ hp hs hwo hS hfr ⟨by rw [hcl]; exact ⟨f n, rfl, b1, b2⟩, by show (11 : Nat) ≠ 7; decide, hst⟩)
theorem e2s_ald {lo hi : Nat} (hlo : 50 ≤ lo) (hhi : hi ≤ 52) (hlh : lo ≤ hi) (hrow : ∀ (t : Nat), lo ≤ 50 + t → 50 + t ≤ hi → ∀ (H : Heap) (locs : List Loc) (k' n : Nat) (ls : Array Slot) (rest : List Value) (ws : va_W) (a q0 N : Nat) (f : Nat → Int32) (i : Int32), va_P D en_classes ws H → ws[q0]? = some (a, .inl (cA.1 t, N, .inl f)) → vp_in i N → W p l e R s m args below meth c H locs k' n Q (F0 m (pc + len) ls (.int (f i.toNatClampNeg) :: rest)) → W p l e R s m args below meth c H locs k' n Q (F0 m pc ls (.int i :: .ref a :: rest))) : e2_sd p l e R s m args below meth c Q nL D cA A ads r0 call F (o2_ald lo hi) pc len := by
  intro Kn Kj al st E h hh hn hj
  rcases e2_el_t hh with ⟨hz, hh0⟩ | ⟨-, hh0⟩
  · have hz : lo = 50 := Nat.eq_of_beq_eq_true hz
    subst hz
    intro r ws H locs ls vs hp hs hwo hS hfr hst
    obtain ⟨iv, vo, st', rfl, hh1⟩ := e2_2_t hh0
    obtain ⟨t1, t2, hh2⟩ := e2_cell_t hh1
    rcases e2_el_t hh2 with ⟨t3, hh3⟩ | ⟨-, hh3⟩
    · have t3 : (ev_hg h vo.2.1).1 = 58 := Nat.eq_of_beq_eq_true t3
      obtain ⟨i0, i, j, hh4, hj6, hb⟩ := e2_ix_t hh3
      have hq := hst.cons
      clear hst
      obtain ⟨w, vs, rfl, q2, -, hst⟩ := hq
      have hq := hst.cons
      clear hst
      obtain ⟨w', vs, rfl, q3, -, hst⟩ := hq
      obtain ⟨X, rfl⟩ := q2.intI i0
      obtain ⟨n, n1, n2, rfl⟩ := hb ads r X hs q2
      obtain ⟨q, e1, rfl⟩ := q3.ref t1
      obtain ⟨en, e2, e3⟩ := hwo.cell t2 e1
      have hcl : (ev_i n).toNatClampNeg = n := ev_cl (by omega)
      obtain ⟨f, rfl, e5⟩ := e3.arr8 t3
      rcases e2_el_t hh4 with ⟨t4, hh5⟩ | ⟨-, hh5⟩
      · have t4 : i = j := Nat.eq_of_beq_eq_true t4
        obtain ⟨v, b2, hh6⟩ := e2_get_t hh5
        have hh6 : e2_el (Nat.beq v.1 11 || Nat.beq v.1 13) (e2_nm E v fun v' E' => e2_put h vo.2.1 (ev_hg h vo.2.1).1 (ev_hg h vo.2.1).2 i v' fun h' => Kn al (v' :: st') E' h') (e2_if (Nat.ble v.1 1) (Kn al (v :: st') E h)) = true := hh6
        have hl := (List.getElem?_eq_some_iff.mp b2).1
        have hni : n = i := by omega
        have e7 := e5 _ v b2
        rcases e2_el_t hh6 with ⟨z, hh7⟩ | ⟨-, hh7⟩
        · obtain ⟨v', E', hh8, hk, hx⟩ := e2_nm_t hh7
          obtain ⟨t5, hh9⟩ := e2_put_t hh8
          obtain ⟨r', hp', hs', hr'⟩ := hx ads r _ hs e7
          have z : v.1 = 11 ∨ v.1 = 13 := by
            simp only [Bool.or_eq_true] at z
            rcases z with z | z
            · exact Or.inl (Nat.eq_of_beq_eq_true z)
            · exact Or.inr (Nat.eq_of_beq_eq_true z)
          have h7 : v'.1 ≠ 7 := by rcases hk with ⟨k1, -⟩ | ⟨k0, k1⟩ | ⟨-, -, k1, k2, k3⟩ <;> omega
          refine hrow 0 (by omega) (by omega) _ _ _ _ _ _ ws q _ _ f _ hwo.2.2.2.1 e2 (ev_in (by omega) (by omega)) (hn _ _ _ _ hh9 r' ws H locs ls _ (e2_ext hp hp') hs' ((hwo.mono hp').abs t2 e2 _ _ (Or.inr (Or.inr (Or.inr (Or.inr (Or.inr (Or.inr (Or.inl ⟨t3, f, by rw [List.length_set], fun j' u hj' => ?_⟩))))))) (Or.inl rfl)) hS (hfr.mono hp') ⟨by rw [hcl, hni]; exact hr', h7, hst.mono hp'⟩)
          rw [List.getElem?_set] at hj'
          by_cases hjk : i = j'
          · subst hjk
            rw [if_pos rfl, if_pos t5] at hj'
            cases hj'
            exact hr'
          · rw [if_neg hjk] at hj'
            exact (e5 j' u hj').mono hp'
        · obtain ⟨t5, hh8⟩ := e2_if_t hh7
          have t5 : v.1 ≤ 1 := Nat.le_of_ble_eq_true t5
          exact hrow 0 (by omega) (by omega) _ _ _ _ _ _ ws q _ _ f _ hwo.2.2.2.1 e2 (ev_in (by omega) (by omega)) (hn _ _ _ _ hh8 r ws H locs ls _ hp hs hwo hS hfr ⟨by rw [hcl, hni]; exact e7, by omega, hst⟩)
      · obtain ⟨l', hh6, hd⟩ := e2_drop_t hh5
        obtain ⟨x, y, hh7, -, -, hw⟩ := e2_hull_t hh6
        obtain ⟨v, w1, w2⟩ := hw (n - i) (show n - i < (j - i) + 1 by omega)
        have hat : (ev_hg h vo.2.1).2[n]? = some v := by rw [← w1, ← hd (n - i), show i + (n - i) = n by omega]
        have hlt := (List.getElem?_eq_some_iff.mp hat).1
        have e7 := e5 n v hat
        obtain ⟨b1, b2⟩ := w2 ads r _ hs e7
        exact hrow 0 (by omega) (by omega) _ _ _ _ _ _ ws q _ _ f _ hwo.2.2.2.1 e2 (ev_in (by omega) hlt) (hn _ _ _ _ hh7 r ws H locs ls _ hp hs hwo hS hfr ⟨by rw [hcl]; exact ⟨f n, rfl, b1, b2⟩, by show (11 : Nat) ≠ 7; decide, hst⟩)
    · rcases e2_el_t hh3 with ⟨t3, hh4⟩ | ⟨-, hh4⟩
      · have t3 : (ev_hg h vo.2.1).1 = 57 := Nat.eq_of_beq_eq_true t3
        obtain ⟨i0, i, j, hh5, hj6, hb⟩ := e2_ix_t hh4
        have hq := hst.cons
        clear hst
        obtain ⟨w, vs, rfl, q2, -, hst⟩ := hq
        have hq := hst.cons
        clear hst
        obtain ⟨w', vs, rfl, q3, -, hst⟩ := hq
        obtain ⟨X, rfl⟩ := q2.intI i0
        obtain ⟨n, n1, n2, rfl⟩ := hb ads r X hs q2
        obtain ⟨q, e1, rfl⟩ := q3.ref t1
        obtain ⟨en, e2, e3⟩ := hwo.cell t2 e1
        have hcl : (ev_i n).toNatClampNeg = n := ev_cl (by omega)
        obtain ⟨N, b, x, y, c', f, l1, rfl, l3⟩ := e3.uni7 t3
        rw [l1] at hh5
        obtain ⟨n0, u, s', l2, hh6⟩ := e2_2_t hh5
        cases l2
        obtain ⟨t4, hh7⟩ := e2_if_t hh6
        have t4 : j < N := Nat.le_of_ble_eq_true t4
        obtain ⟨b1, b2⟩ := l3 n (by omega)
        exact hrow 0 (by omega) (by omega) _ _ _ _ _ _ ws q _ _ f _ hwo.2.2.2.1 e2 (ev_in (by omega) (by omega)) (hn _ _ _ _ hh7 r ws H locs ls _ hp hs hwo hS hfr ⟨by rw [hcl]; exact ⟨f n, rfl, b1, b2⟩, by show (11 : Nat) ≠ 7; decide, hst⟩)
      · exact e2s_ald0 hlo hhi hrow Kn Kj al _ E h hh4 hn hj r ws H locs ls vs hp hs hwo hS hfr hst
  · exact e2s_ald0 hlo hhi hrow Kn Kj al st E h hh0 hn hj
theorem e2s_iast (hrow : ∀ (H : Heap) (locs : List Loc) (k' n : Nat) (ls : Array Slot) (rest : List Value) (ws : va_W) (a q0 N : Nat) (f : Nat → Int32) (i x : Int32), va_P D en_classes ws H → va_D A ws → va_S A s.heap H locs → ws[q0]? = some (a, .inl (cA.1 0, N, .inl f)) → vp_in i N → (∀ (H1 : Heap) (locs1 : List Loc), va_P D en_classes (ws.set q0 (a, .inl (cA.1 0, N, .inl (upd f i.toNatClampNeg x)))) H1 → va_D A (ws.set q0 (a, .inl (cA.1 0, N, .inl (upd f i.toNatClampNeg x)))) → va_S A s.heap H1 locs1 → W p l e R s m args below meth c H1 locs1 k' n Q (F0 m (pc + len) ls rest)) → W p l e R s m args below meth c H locs k' n Q (F0 m pc ls (.int x :: .int i :: .ref a :: rest))) : e2_sd p l e R s m args below meth c Q nL D cA A ads r0 call F o2_iast pc len := by
  intro Kn Kj al st E h hh hn hj r ws H locs ls vs hp hs hwo hS hfr hst
  obtain ⟨v, iv, vo, st', rfl, hh1⟩ := e2_3_t hh
  obtain ⟨t1, t2, hh2⟩ := e2_cell_t hh1
  obtain ⟨t4, hh3⟩ := e2_if_t hh2
  have hq := hst.cons
  clear hst
  obtain ⟨w0, vs, rfl, q1, -, hst⟩ := hq
  have hq := hst.cons
  clear hst
  obtain ⟨w, vs, rfl, q2, -, hst⟩ := hq
  have hq := hst.cons
  clear hst
  obtain ⟨w', vs, rfl, q3, -, hst⟩ := hq
  obtain ⟨x, rfl⟩ := q1.intI t4
  rcases e2_el_t hh3 with ⟨zs, hh4⟩ | ⟨-, hh4⟩
  · obtain ⟨z1, z2⟩ := (Bool.and_eq_true _ _).mp zs
    obtain ⟨z2, z3⟩ := (Bool.and_eq_true _ _).mp z2
    obtain ⟨z3, z4⟩ := (Bool.and_eq_true _ _).mp z3
    obtain ⟨z4, z5⟩ := (Bool.and_eq_true _ _).mp z4
    have z1 : (ev_hg h vo.2.1).1 = 54 := Nat.eq_of_beq_eq_true z1
    have z2 : vo.2.1 = 50 ∨ vo.2.1 = 68 := by
      rcases (Bool.or_eq_true _ _).mp z2 with z | z
      · exact Or.inl (Nat.eq_of_beq_eq_true z)
      · exact Or.inr (Nat.eq_of_beq_eq_true z)
    rw [ev_tget_k] at z5
    have z5 : (ev_hg h (vo.2.1 + 1)).1 = 54 := Nat.eq_of_beq_eq_true z5
    have hv1 : ∀ {u : ev_V}, e2_v1 u = true → u = (1, 1, 4294967296) := by
      intro u hu
      obtain ⟨t, a, c⟩ := u
      obtain ⟨y1, y2⟩ := (Bool.and_eq_true _ _).mp hu
      obtain ⟨y2, y3⟩ := (Bool.and_eq_true _ _).mp y2
      rw [Nat.eq_of_beq_eq_true y1, Nat.eq_of_beq_eq_true y2, Nat.eq_of_beq_eq_true y3]
    have e1v := hv1 z3
    have e2v := hv1 z4
    obtain ⟨i0, i1, j, hh5, hj65, hb⟩ := e2_ix_t hh4
    obtain ⟨y20, hh6⟩ := e2_if_t hh5
    have y20 : j ≤ 20 := Nat.le_of_ble_eq_true y20
    obtain ⟨i, rfl⟩ := q2.intI i0
    obtain ⟨q, e1, rfl⟩ := q3.ref t1
    obtain ⟨en, e2, e3⟩ := hwo.cell t2 e1
    obtain ⟨N, b, lo, hi, f, l1, rfl, l3⟩ := e3.uni (by omega) (by omega)
    rw [l1] at hh6
    obtain ⟨n0, u, s', l2, hh7⟩ := e2_2_t hh6
    cases l2
    obtain ⟨y1, hh8⟩ := e2_if_t hh7
    have y1 : j < N := Nat.le_of_ble_eq_true y1
    obtain ⟨-, xx, yy, hh9, hbv⟩ := e2_rng_t hh8
    obtain ⟨y2, hh10⟩ := e2_if_t hh9
    obtain ⟨y3, hh11⟩ := e2_if_t hh10
    have y2 : lo ≤ xx := Nat.le_of_ble_eq_true y2
    have y3 : yy ≤ hi := Nat.le_of_ble_eq_true y3
    rw [ev_tset_k] at hh11
    obtain ⟨n, n1, n2, rfl⟩ := hb ads r i hs q2
    have hcl : (ev_i n).toNatClampNeg = n := ev_cl (by omega)
    obtain ⟨v1, v2⟩ := hbv ads r x hs q1
    rw [e1v] at q2
    rw [e2v] at q1
    obtain ⟨X2, k2, x2, x3, x4⟩ := q2
    obtain ⟨X1, k1, w2, w3, w4⟩ := q1
    have x2 := Value.int.inj x2
    have w2 := Value.int.inj w2
    have x3 : r[1]? = some k2 := x3
    have w3 : r[1]? = some k1 := w3
    have x4 : ev_key X2 + 4294967296 = k2 + 4294967296 := x4
    have w4 : ev_key X1 + 4294967296 = k1 + 4294967296 := w4
    rw [← x2, ev_key_of] at x4
    have hk12 : k1 = k2 := Option.some.inj (w3.symm.trans x3)
    have hxn : x = ev_i n := ev_key_eqI.mpr (by rw [ev_key_of, w2]; omega)
    refine hrow _ _ _ _ _ _ ws q _ N f (ev_i n) x hwo.2.2.2.1 hwo.2.2.2.2.1 hS (by rw [z1] at e2; exact e2) (ev_in (by omega) (by omega)) fun H1 locs1 hP hD hS1 => hn _ _ _ _ hh11 r (ws.set vo.2.1 (q, .inl (cA.1 0, N, .inl (upd f (ev_i n).toNatClampNeg x)))) H1 locs1 ls _ hp hs ?_ hS1 hfr hst
    rw [hcl] at hP hD ⊢
    have e2' : ws[vo.2.1]? = some (q, .inl (cA.1 0, N, .inl f)) := by rw [z1] at e2; exact e2
    refine hwo.set7 z2 e2' _ (Or.inr (Or.inr (Or.inr (Or.inr (Or.inr (Or.inl ⟨rfl, N, b, lo, hi, 4294967296, upd f n x, rfl, rfl, fun j' hj' => ?_⟩)))))) hP hD z5 (s := n) (f := upd f n x) (by rw [x3]; exact congrArg some (by omega)) (by omega) ⟨_, _, rfl⟩ (by simp only [upd, if_pos]; exact hxn)
    by_cases hjn : j' = n
    · simp only [upd, if_pos hjn]
      exact ⟨by omega, by omega⟩
    · simp only [upd, if_neg hjn]
      exact l3 j' hj'
  obtain ⟨i0, hb⟩ := e2_ast_t (by decide) (by decide) t2 hh4
  obtain ⟨i, rfl⟩ := q2.intI i0
  obtain ⟨q, e1, rfl⟩ := q3.ref t1
  obtain ⟨en, e2, e3⟩ := hwo.cell t2 e1
  obtain ⟨N, f, rfl, g1, h', g2, g3⟩ := hb hs hwo e2 e3 q2 q1
  exact hrow _ _ _ _ _ _ ws q _ N f i x hwo.2.2.2.1 hwo.2.2.2.2.1 hS e2 g1 fun H1 locs1 hP hD hS1 => hn _ _ _ _ g2 r _ H1 locs1 ls _ hp hs (g3 H1 hP hD) hS1 hfr hst
theorem e2s_bast (hrow : ∀ (t : Nat) (ty : FieldType), (t = 1 ∧ ty = .byte ∨ t = 2 ∧ ty = .boolean) → ∀ (H : Heap) (locs : List Loc) (k' n : Nat) (ls : Array Slot) (rest : List Value) (ws : va_W) (a q0 N : Nat) (f : Nat → Int32) (i x : Int32), va_P D en_classes ws H → va_D A ws → va_S A s.heap H locs → ws[q0]? = some (a, .inl (cA.1 t, N, .inl f)) → vp_in i N → (∀ (H1 : Heap) (locs1 : List Loc), va_P D en_classes (ws.set q0 (a, .inl (cA.1 t, N, .inl (upd f i.toNatClampNeg (vp_nar ty x))))) H1 → va_D A (ws.set q0 (a, .inl (cA.1 t, N, .inl (upd f i.toNatClampNeg (vp_nar ty x))))) → va_S A s.heap H1 locs1 → W p l e R s m args below meth c H1 locs1 k' n Q (F0 m (pc + len) ls rest)) → W p l e R s m args below meth c H locs k' n Q (F0 m pc ls (.int x :: .int i :: .ref a :: rest))) : e2_sd p l e R s m args below meth c Q nL D cA A ads r0 call F o2_bast pc len := by
  intro Kn Kj al st E h hh hn hj r ws H locs ls vs hp hs hwo hS hfr hst
  obtain ⟨v, iv, vo, st', rfl, hh1⟩ := e2_3_t hh
  obtain ⟨t1, t2, hh2⟩ := e2_cell_t hh1
  have hq := hst.cons
  clear hst
  obtain ⟨w0, vs, rfl, q1, -, hst⟩ := hq
  have hq := hst.cons
  clear hst
  obtain ⟨w, vs, rfl, q2, -, hst⟩ := hq
  have hq := hst.cons
  clear hst
  obtain ⟨w', vs, rfl, q3, -, hst⟩ := hq
  obtain ⟨q, e1, rfl⟩ := q3.ref t1
  obtain ⟨en, e2, e3⟩ := hwo.cell t2 e1
  rcases e2_el_t hh2 with ⟨-, hh3⟩ | ⟨-, hh3⟩
  · obtain ⟨t4, v', hh4, hv⟩ := e2_nar_t e2_nb1 e2_nb2 hh3
    obtain ⟨i0, hb⟩ := e2_ast_t (tag := 51) (by decide) (by decide) t2 hh4
    obtain ⟨x, rfl⟩ := q1.intI t4
    obtain ⟨i, rfl⟩ := q2.intI i0
    obtain ⟨N, f, rfl, g1, h', g2, g3⟩ := hb hs hwo e2 e3 q2 (hv ads r x hs q1)
    exact hrow 1 .byte (Or.inl ⟨rfl, rfl⟩) _ _ _ _ _ _ ws q _ N f i x hwo.2.2.2.1 hwo.2.2.2.2.1 hS e2 g1 fun H1 locs1 hP hD hS1 => hn _ _ _ _ g2 r _ H1 locs1 ls _ hp hs (g3 H1 hP hD) hS1 hfr hst
  · obtain ⟨t4, v', hh4, hv⟩ := e2_nar_t e2_nz1 e2_nz2 hh3
    obtain ⟨i0, hb⟩ := e2_ast_t (tag := 52) (by decide) (by decide) t2 hh4
    obtain ⟨x, rfl⟩ := q1.intI t4
    obtain ⟨i, rfl⟩ := q2.intI i0
    obtain ⟨N, f, rfl, g1, h', g2, g3⟩ := hb hs hwo e2 e3 q2 (hv ads r x hs q1)
    exact hrow 2 .boolean (Or.inr ⟨rfl, rfl⟩) _ _ _ _ _ _ ws q _ N f i x hwo.2.2.2.1 hwo.2.2.2.2.1 hS e2 g1 fun H1 locs1 hP hD hS1 => hn _ _ _ _ g2 r _ H1 locs1 ls _ hp hs (g3 H1 hP hD) hS1 hfr hst
theorem e2s_lald (hrow : ∀ (H : Heap) (locs : List Loc) (k' n : Nat) (ls : Array Slot) (rest : List Value) (ws : va_W) (a q0 N : Nat) (f : Nat → Int64) (i : Int32), va_P D en_classes ws H → ws[q0]? = some (a, .inl (cA.1 3, N, .inr (.inl f))) → vp_in i N → W p l e R s m args below meth c H locs k' n Q (F0 m (pc + len) ls (.long (f i.toNatClampNeg) :: rest)) → W p l e R s m args below meth c H locs k' n Q (F0 m pc ls (.int i :: .ref a :: rest))) : e2_sd p l e R s m args below meth c Q nL D cA A ads r0 call F o2_lald pc len := by
  intro Kn Kj al st E h hh hn hj r ws H locs ls vs hp hs hwo hS hfr hst
  obtain ⟨iv, vo, st', rfl, hh1⟩ := e2_2_t hh
  obtain ⟨t1, t2, hh2⟩ := e2_cell_t hh1
  rcases e2_el_t hh2 with ⟨t9, hh9⟩ | ⟨-, hh2⟩
  · obtain ⟨i0, i, j, hh4, hj6, hb⟩ := e2_ix_t hh9
    obtain ⟨ij, hh5⟩ := e2_if_t hh4
    have ij : i = j := Nat.eq_of_beq_eq_true ij
    subst ij
    obtain ⟨v, hv, hh6⟩ := e2_get_t hh5
    obtain ⟨v4, hh7⟩ := e2_if_t hh6
    have v4 : v.1 = 4 := Nat.eq_of_beq_eq_true v4
    have hq := hst.cons
    clear hst
    obtain ⟨w, vs, rfl, q2, -, hst⟩ := hq
    have hq := hst.cons
    clear hst
    obtain ⟨w', vs, rfl, q3, -, hst⟩ := hq
    obtain ⟨X, rfl⟩ := q2.intI i0
    obtain ⟨n, n1, n2, rfl⟩ := hb ads r X hs q2
    obtain ⟨q, e1, rfl⟩ := q3.ref t1
    obtain ⟨en, e2, e3⟩ := hwo.cell t2 e1
    obtain ⟨f, rfl, l3⟩ := e3.lng9 (Nat.eq_of_beq_eq_true t9)
    have hin : n = i := by omega
    subst hin
    have hil := (List.getElem?_eq_some_iff.mp hv).1
    refine hrow _ _ _ _ _ _ ws q _ _ f _ hwo.2.2.2.1 e2 (ev_in (by omega) hil) (hn _ _ _ _ hh7 r ws H locs ls _ hp hs hwo hS hfr ⟨?_, by omega, hst⟩)
    rw [ev_cl (by omega)]
    exact l3 n v hv
  obtain ⟨t3, hh3⟩ := e2_if_t hh2
  obtain ⟨i0, i, j, hh4, hj6, hb⟩ := e2_ix_t hh3
  have hq := hst.cons
  clear hst
  obtain ⟨w, vs, rfl, q2, -, hst⟩ := hq
  have hq := hst.cons
  clear hst
  obtain ⟨w', vs, rfl, q3, -, hst⟩ := hq
  obtain ⟨X, rfl⟩ := q2.intI i0
  obtain ⟨n, n1, n2, rfl⟩ := hb ads r X hs q2
  obtain ⟨q, e1, rfl⟩ := q3.ref t1
  obtain ⟨en, e2, e3⟩ := hwo.cell t2 e1
  obtain ⟨N, b, f, l1, rfl⟩ := e3.lng (Nat.eq_of_beq_eq_true t3)
  rw [l1] at hh4
  obtain ⟨n0, s', l2, hh5⟩ := e2_1_t hh4
  cases l2
  obtain ⟨t4, hh6⟩ := e2_if_t hh5
  have t4 : j < N := Nat.le_of_ble_eq_true t4
  exact hrow _ _ _ _ _ _ ws q _ N f _ hwo.2.2.2.1 e2 (ev_in (by omega) (by omega)) (hn _ _ _ _ hh6 r ws H locs ls _ hp hs hwo hS hfr ⟨⟨_, rfl⟩, by show (5 : Nat) ≠ 7; decide, hst⟩)
theorem e2s_last (hrow : ∀ (H : Heap) (locs : List Loc) (k' n : Nat) (ls : Array Slot) (rest : List Value) (ws : va_W) (a q0 N : Nat) (f : Nat → Int64) (i : Int32) (x : Int64), va_P D en_classes ws H → va_D A ws → va_S A s.heap H locs → ws[q0]? = some (a, .inl (cA.1 3, N, .inr (.inl f))) → vp_in i N → (∀ (g : Nat → Int64) (H1 : Heap) (locs1 : List Loc), va_P D en_classes (ws.set q0 (a, .inl (cA.1 3, N, .inr (.inl g)))) H1 → va_D A (ws.set q0 (a, .inl (cA.1 3, N, .inr (.inl g)))) → va_S A s.heap H1 locs1 → W p l e R s m args below meth c H1 locs1 k' n Q (F0 m (pc + len) ls rest)) → W p l e R s m args below meth c H locs k' n Q (F0 m pc ls (.long x :: .int i :: .ref a :: rest))) : e2_sd p l e R s m args below meth c Q nL D cA A ads r0 call F o2_last pc len := by
  intro Kn Kj al st E h hh hn hj r ws H locs ls vs hp hs hwo hS hfr hst
  obtain ⟨v, iv, vo, st', rfl, hh1⟩ := e2_3_t hh
  obtain ⟨t1, t2, hh2⟩ := e2_cell_t hh1
  obtain ⟨t3, hh3⟩ := e2_if_t hh2
  obtain ⟨t5, hh3b⟩ := e2_if_t hh3
  obtain ⟨i0, i, j, hh4, hj6, hb⟩ := e2_ix_t hh3b
  have hq := hst.cons
  clear hst
  obtain ⟨w0, vs, rfl, q1, -, hst⟩ := hq
  have hq := hst.cons
  clear hst
  obtain ⟨w, vs, rfl, q2, -, hst⟩ := hq
  have hq := hst.cons
  clear hst
  obtain ⟨w', vs, rfl, q3, -, hst⟩ := hq
  obtain ⟨x, rfl⟩ := q1.long t5
  obtain ⟨X, rfl⟩ := q2.intI i0
  obtain ⟨n, n1, n2, rfl⟩ := hb ads r X hs q2
  obtain ⟨q, e1, rfl⟩ := q3.ref t1
  obtain ⟨en, e2, e3⟩ := hwo.cell t2 e1
  obtain ⟨N, b, f, l1, rfl⟩ := e3.lng (Nat.eq_of_beq_eq_true t3)
  rw [l1] at hh4
  obtain ⟨n0, s', l2, hh5⟩ := e2_1_t hh4
  cases l2
  obtain ⟨t4, hh6⟩ := e2_if_t hh5
  have t4 : j < N := Nat.le_of_ble_eq_true t4
  refine hrow _ _ _ _ _ _ ws q _ N f _ x hwo.2.2.2.1 hwo.2.2.2.2.1 hS e2 (ev_in (by omega) (by omega)) fun g H1 locs1 hP hD hS1 => hn _ _ _ _ hh6 r _ H1 locs1 ls _ hp hs (hwo.keep t2 e2 (Or.inr (Or.inr (Or.inl ⟨Nat.eq_of_beq_eq_true t3, N, b, g, l1, rfl⟩))) hP hD (by have := Nat.eq_of_beq_eq_true t3; omega)) hS1 hfr hst
theorem e2s_alen (hrow : ∀ (t : Nat), t < 4 → ∀ (H : Heap) (locs : List Loc) (k' n : Nat) (ls : Array Slot) (rest : List Value) (ws : va_W) (a q0 : Nat) (x : vp_A), va_P D en_classes ws H → ws[q0]? = some (a, .inl (cA.1 t, x)) → W p l e R s m args below meth c H locs k' n Q (F0 m (pc + len) ls (.int (Int32.ofNat x.1) :: rest)) → W p l e R s m args below meth c H locs k' n Q (F0 m pc ls (.ref a :: rest))) : e2_sd p l e R s m args below meth c Q nL D cA A ads r0 call F o2_alen pc len := by
  intro Kn Kj al st E h hh hn hj r ws H locs ls vs hp hs hwo hS hfr hst
  obtain ⟨vo, st', rfl, hh1⟩ := e2_1_t hh
  obtain ⟨t1, t2, hh2⟩ := e2_cell_t hh1
  rcases e2_el_t hh2 with ⟨t9, hh9⟩ | ⟨-, hh2⟩
  · have hq := hst.cons
    clear hst
    obtain ⟨w', vs, rfl, q3, -, hst⟩ := hq
    obtain ⟨q, e1, rfl⟩ := q3.ref t1
    obtain ⟨en, e2, e3⟩ := hwo.cell t2 e1
    obtain ⟨f, rfl, l3⟩ := e3.lng9 (Nat.eq_of_beq_eq_true t9)
    rw [ev_fN_eq] at hh9
    obtain ⟨-, hh6⟩ := e2_if_t hh9
    exact hrow 3 (by decide) _ _ _ _ _ _ ws q _ _ hwo.2.2.2.1 e2 (hn _ _ _ _ hh6 r ws H locs ls _ hp hs hwo hS hfr ⟨e2_rel.of ads r _ 0, by show (0 : Nat) ≠ 7; decide, hst⟩)
  obtain ⟨t3, hh3⟩ := e2_if_t hh2
  obtain ⟨t4, hh4⟩ := e2_if_t hh3
  have t3 : 50 ≤ (ev_hg h vo.2.1).1 := Nat.le_of_ble_eq_true t3
  have t4 : (ev_hg h vo.2.1).1 ≤ 56 := Nat.le_of_ble_eq_true t4
  have hq := hst.cons
  clear hst
  obtain ⟨w', vs, rfl, q3, -, hst⟩ := hq
  obtain ⟨q, e1, rfl⟩ := q3.ref t1
  obtain ⟨en, e2, e3⟩ := hwo.cell t2 e1
  rcases e2_el_t hh4 with ⟨t5, hh5⟩ | ⟨t5, hh5⟩
  · have t5 : (ev_hg h vo.2.1).1 ≤ 52 := Nat.le_of_ble_eq_true t5
    obtain ⟨f, rfl, e5⟩ := e3.arr (by omega) (by omega)
    rw [ev_fN_eq] at hh5
    obtain ⟨-, hh6⟩ := e2_if_t hh5
    exact hrow _ (show (ev_hg h vo.2.1).1 - 50 < 4 by omega) _ _ _ _ _ _ ws q _ _ hwo.2.2.2.1 e2 (hn _ _ _ _ hh6 r ws H locs ls _ hp hs hwo hS hfr ⟨e2_rel.of ads r _ 0, by show (0 : Nat) ≠ 7; decide, hst⟩)
  · have n5 : ¬ (ev_hg h vo.2.1).1 ≤ 52 := fun z => by rw [Nat.ble_eq_true_of_le z] at t5; cases t5
    by_cases h53 : (ev_hg h vo.2.1).1 = 53
    · obtain ⟨N, b, f, l1, rfl⟩ := e3.lng h53
      rw [l1] at hh5
      obtain ⟨n0, s', l2, hh6⟩ := e2_1_t hh5
      cases l2
      obtain ⟨-, hh7⟩ := e2_if_t hh6
      exact hrow 3 (by decide) _ _ _ _ _ _ ws q _ _ hwo.2.2.2.1 e2 (hn _ _ _ _ hh7 r ws H locs ls _ hp hs hwo hS hfr ⟨e2_rel.of ads r _ 0, by show (0 : Nat) ≠ 7; decide, hst⟩)
    · obtain ⟨N, b, x, y, f, l1, rfl, l3⟩ := e3.uni (by omega) (by omega)
      rw [l1] at hh5
      obtain ⟨n0, s', l2, hh6⟩ := e2_1_t hh5
      cases l2
      obtain ⟨-, hh7⟩ := e2_if_t hh6
      exact hrow _ (show (ev_hg h vo.2.1).1 - 54 < 4 by omega) _ _ _ _ _ _ ws q _ _ hwo.2.2.2.1 e2 (hn _ _ _ _ hh7 r ws H locs ls _ hp hs hwo hS hfr ⟨e2_rel.of ads r _ 0, by show (0 : Nat) ≠ 7; decide, hst⟩)
end E2Heap
