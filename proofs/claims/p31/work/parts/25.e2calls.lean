/-! LONGS, SWITCHES, SPLITS, CALLS AND RETURNS of the second engine -/
theorem e2_small_ok {ads r : List Nat} : ∀ {st : List ev_V} {vs : List Value}, e2_relS ads r st vs → e2_small st = true → (vs.map fun v => v.category).sum ≤ 8 := by
  intro st vs h hs
  have h8 : e2_wd st ≤ 8 := Nat.le_of_ble_eq_true hs
  have key : ∀ {st : List ev_V} {vs : List Value}, e2_relS ads r st vs → (vs.map fun v => v.category).sum ≤ e2_wd st := by
    intro st
    induction st with
    | nil => intro vs h; rw [h.nil]; exact Nat.le_refl _
    | cons v st ih =>
      intro vs h
      obtain ⟨w, ws, rfl, g1, g7, g2⟩ := h.cons
      have h1 := ih g2
      have e : e2_wd (v :: st) = e2_wd st + Bool.rec (motive := fun _ => Nat) 1 2 (e2_isL v.1) := rfl
      simp only [List.map_cons, List.sum_cons]
      cases hz : e2_isL v.1 with
      | false =>
        have hc := g1.cat1 hz g7
        rw [hz] at e
        have e : e2_wd (v :: st) = e2_wd st + 1 := e
        omega
      | true =>
        rw [hz] at e
        have e : e2_wd (v :: st) = e2_wd st + 2 := e
        have hv : w.category ≤ 2 := by cases w <;> simp [Value.category]
        omega
  exact Nat.le_trans (key h) h8
theorem e2_cut_t (n : Nat) : ∀ {acc st : List ev_V} {k : List ev_V → List ev_V → Bool}, e2_cut n acc st k = true → ∃ q s', st = q ++ s' ∧ q.length = n ∧ k (q.reverse ++ acc) s' = true := by
  induction n with
  | zero => intro acc st k h; exact ⟨[], st, rfl, rfl, h⟩
  | succ n ih =>
    intro acc st k h
    obtain ⟨v, s1, e1, h1⟩ := e2_1_t h
    obtain ⟨q, s2, e2, e3, h2⟩ := ih h1
    refine ⟨v :: q, s2, by rw [e1, e2]; rfl, by simp [e3], ?_⟩
    rw [List.reverse_cons, List.append_assoc]
    exact h2
def e2_ret (ads r : List Nat) (v : ev_V) (w : Option Value) : Prop := (v.1 = 9 ∧ w = none) ∨ (v.1 ≠ 9 ∧ v.1 ≠ 7 ∧ ∃ x, w = some x ∧ e2_rel ads r v x)
def e2_Qc (D : va_G) (cA : e2_cA) (ads r0 : List Nat) (ws : va_W) (sz : Nat) (F : e2_F) : Array Value → State → Outcome → State → Prop := fun _ st oc t =>
  (∃ (v : ev_V) (E : e2_E) (h : ev_H) (r : List Nat) (ws' : va_W) (w : Option Value), F v E h = true ∧ oc = .returned w ∧ (∃ x, r = r0 ++ x) ∧ e2_sat r E ∧ e2_wo D cA (va_A ws sz) ads r ws' h t.heap ∧ e2_ret ads r v w) ∧ va_F (va_A ws sz) st t
def e2_Pc (D : va_G) (cA : e2_cA) (ads r0 : List Nat) (ws : va_W) (sz : Nat) (h : ev_H) (vs : List Value) : Array Value → State → Prop := va_Pc vs (fun U => U.heap.size = sz ∧ e2_wo D cA (fun _ => True) ads r0 ws h U.heap ∧ va_K D en_classes (e2_tys cA) U ∧ en_N U ∧ e2_St (va_A ws sz) U U.heap)
/-- a method's contract: from what (E, h) says, with these arguments, it returns, and something that F takes holds then -/
def e2_Met (l : Launch) (M : ev_M) (d : Nat) (as : List ev_V) (E : e2_E) (h : ev_H) (F : e2_F) : Prop :=
  ∀ (D : va_G) (cA : e2_cA) (ads r0 : List Nat) (ws : va_W) (vs : List Value) (sz : Nat), e2_sat r0 E → e2_relS ads r0 as vs →
    Met l M.1 (ev_ws M) (ev_rm d 0 0) (e2_Pc D cA ads r0 ws sz h vs) (e2_Qc D cA ads r0 ws sz F) 0 0 (va_A ws sz)
theorem e2_Pc.blind {D : va_G} {cA : e2_cA} {ads r0 : List Nat} {ws : va_W} {sz : Nat} {h : ev_H} {vs : List Value} : FrameBlind (e2_Pc D cA ads r0 ws sz h vs) := fun a U g mk q => by
  obtain ⟨q0, q1, q2, q3, q4⟩ := q
  exact ⟨q0, q1, q2, va_K.moved (u := U) (U := U.calling g mk a) (Vm.Alike.refl U.vm) q3, en_N.same (s := U) (U := U.calling g mk a) rfl q4.1, e2_St.same (s := U) (U := U.calling g mk a) q4.2 rfl rfl⟩
theorem e2_wo.any {D : va_G} {cA : e2_cA} {A : Nat → Prop} {ads r : List Nat} {ws : va_W} {h : ev_H} {H : Heap} (hw : e2_wo D cA A ads r ws h H) {B : Nat → Prop} (hB : ∀ (k : Nat) (q : Nat × va_E), ws[k]? = some q → A q.1 → B q.1) : e2_wo D cA B ads r ws h H := by
  obtain ⟨h1, h2, h3, h4, h5⟩ := hw
  exact ⟨h1, h2, h3, h4, h5.1.weaken hB, h5.2⟩
section E2Calls
variable {p : Program} {l : Launch} {e : Env} {R : Room} {s : State} {m : MethodId} {args : Array Value} {below : List Frame} {meth : Method} {c : Code} {Q : State → Prop}
variable {cc : ByteArray} {own : String} {nL : Nat} {D : va_G} {cA : e2_cA} {A : Nat → Prop} {ads r0 : List Nat} {d : Nat} {call : e2_Call} {F : e2_F} {pc len : Nat}
theorem e2s_none : e2_sd p l e R s m args below meth c Q nL D cA A ads r0 call F o2_none pc len := by
  intro Kn Kj al st E h hh
  exact absurd hh (by simp [o2_none])
theorem e2s_mm {o : Int32 → Int32 → Int32} {tr : ev_V → ev_V → Nat → Nat → Nat → Nat → ev_V} (ht : e2_tro o tr) (hrow : ∀ (H : Heap) (locs : List Loc) (ls : Array Slot) (rest : List Value) (x y : Int32), ls.size = nL → (rest.map fun v => v.category).sum ≤ 8 → W p l e R s m args below meth c H locs 0 0 Q (F0 m (pc + len) ls (.int (o x y) :: rest)) → W p l e R s m args below meth c H locs 0 0 Q (F0 m pc ls (.int y :: .int x :: rest))) : e2_sd p l e R s m args below meth c Q nL D cA A ads r0 call F (o2_mm o tr) pc len := by
  intro Kn Kj al st E h hh hn hj r ws H locs ls vs hp hs hwo hS hfr hst
  obtain ⟨vb, va, st', rfl, hh1⟩ := e2_2_t hh
  obtain ⟨t4, hh2⟩ := e2_if_t hh1
  obtain ⟨i1, i2, cv, hh3, ci, hc⟩ := e2_bin_t ht hh2
  have hq := hst.cons
  clear hst
  obtain ⟨w, vs, rfl, q2, -, hst⟩ := hq
  have hq := hst.cons
  clear hst
  obtain ⟨w', vs, rfl, q3, -, hst⟩ := hq
  obtain ⟨y, rfl⟩ := q2.intI i2
  obtain ⟨x, rfl⟩ := q3.intI i1
  exact hrow _ _ _ _ x y hfr.2.choose_spec.1.1 (e2_small_ok hst t4) (hn _ _ _ _ hh3 r ws H locs ls _ hp hs hwo hS hfr ⟨hc ads r x y hs q3 q2, (e2_I7 ci).1, hst⟩)
theorem e2s_lcmp (hrow : ∀ (H : Heap) (locs : List Loc) (k n : Nat) (ls : Array Slot) (rest : List Value) (x y : Int64), (∀ z : Int32, (z = 0 ↔ x = y) → 2147483647 ≤ ev_key z → ev_key z ≤ 2147483649 → W p l e R s m args below meth c H locs k n Q (F0 m (pc + len) ls (.int z :: rest))) → W p l e R s m args below meth c H locs k n Q (F0 m pc ls (.long y :: .long x :: rest))) : e2_sd p l e R s m args below meth c Q nL D cA A ads r0 call F o2_lcmp pc len := by
  intro Kn Kj al st E h hh hn hj r ws H locs ls vs hp hs hwo hS hfr hst
  obtain ⟨vb, va, st', rfl, hh1⟩ := e2_2_t hh
  have hh1 : e2_if (e2_isL va.1) (e2_if (e2_isL vb.1) (e2_el (Nat.beq va.1 6 && (Nat.beq vb.1 4 && Nat.blt vb.2.1 18446744073709551616)) (Kn al ((14, va.2.1, vb.2.1) :: st') E h) (e2_el (Nat.beq va.1 4 && (Nat.beq vb.1 4 && (Nat.blt va.2.1 18446744073709551616 && Nat.blt vb.2.1 18446744073709551616))) (e2_el (Nat.beq va.2.1 vb.2.1) (Kn al ((0, 0, 0) :: st') E h) (e2_if (Kn al ((0, 4294967295, 0) :: st') E h) (Kn al ((0, 1, 0) :: st') E h))) (Kn al ((11, 2147483647, 2147483649) :: st') E h)))) = true := hh1
  obtain ⟨i1, hh2⟩ := e2_if_t hh1
  obtain ⟨i2, hh3⟩ := e2_if_t hh2
  have hq := hst.cons
  clear hst
  obtain ⟨w, vs, rfl, q2, -, hst⟩ := hq
  have hq := hst.cons
  clear hst
  obtain ⟨w', vs, rfl, q3, -, hst⟩ := hq
  obtain ⟨y, rfl⟩ := q2.long i2
  obtain ⟨x, rfl⟩ := q3.long i1
  refine hrow _ _ _ _ _ _ x y fun z hz z1 z2 => ?_
  have f1 : ∀ n, n < 18446744073709551616 → (Int64.ofNat n).toUInt64.toNat = n := fun n hn => by
    show (UInt64.ofNat n).toNat = n
    exact UInt64.toNat_ofNat_of_lt' hn
  rcases e2_el_t hh3 with ⟨t, hh4⟩ | ⟨-, hh3b⟩
  · simp only [Bool.and_eq_true] at t
    obtain ⟨ta, tb, tc⟩ := t
    have tc : vb.2.1 < 18446744073709551616 := Nat.le_of_ble_eq_true tc
    obtain ⟨t1, a1, b1⟩ := va
    obtain ⟨t2, a2, b2⟩ := vb
    have ta : t1 = 6 := Nat.eq_of_beq_eq_true ta
    have tb : t2 = 4 := Nat.eq_of_beq_eq_true tb
    clear hh hh1 hh2 hh3 i1 i2
    subst ta
    subst tb
    obtain ⟨k, e1, e2, e3⟩ := q3
    have e2 := Value.long.inj e2
    have e4 : Value.long y = .long (Int64.ofNat a2) := q2
    have e4 := Value.long.inj e4
    have tc : a2 < 18446744073709551616 := tc
    refine hn _ _ _ _ hh4 r ws H locs ls _ hp hs hwo hS hfr ⟨⟨z, k, rfl, e1, ?_⟩, by show (14 : Nat) ≠ 7; decide, hst⟩
    rw [hz, e2, e4]
    show Int64.ofNat k = Int64.ofNat a2 ↔ k = a2
    constructor
    · intro q
      have q2 := congrArg (fun u : Int64 => u.toUInt64.toNat) q
      have f1 : ∀ n, n < 18446744073709551616 → (Int64.ofNat n).toUInt64.toNat = n := fun n hn => by
        show (UInt64.ofNat n).toNat = n
        exact UInt64.toNat_ofNat_of_lt' hn
      have q2 : (Int64.ofNat k).toUInt64.toNat = (Int64.ofNat a2).toUInt64.toNat := q2
      rw [f1 k e3, f1 a2 tc] at q2
      exact q2
    · intro q; rw [q]
  rcases e2_el_t hh3b with ⟨t, hh4⟩ | ⟨-, hh4⟩
  · simp only [Bool.and_eq_true] at t
    obtain ⟨ta, tb, tc, td⟩ := t
    have tc : va.2.1 < 18446744073709551616 := Nat.le_of_ble_eq_true tc
    have td : vb.2.1 < 18446744073709551616 := Nat.le_of_ble_eq_true td
    obtain ⟨t1, a1, b1⟩ := va
    obtain ⟨t2, a2, b2⟩ := vb
    have ta : t1 = 4 := Nat.eq_of_beq_eq_true ta
    have tb : t2 = 4 := Nat.eq_of_beq_eq_true tb
    clear hh hh1 hh2 hh3 hh3b i1 i2
    subst ta
    subst tb
    have e2 : Value.long x = .long (Int64.ofNat a1) := q3
    have e2 := Value.long.inj e2
    have e4 : Value.long y = .long (Int64.ofNat a2) := q2
    have e4 := Value.long.inj e4
    have tc : a1 < 18446744073709551616 := tc
    have td : a2 < 18446744073709551616 := td
    rcases e2_el_t hh4 with ⟨u, hh5⟩ | ⟨u, hh5⟩
    · have u : a1 = a2 := Nat.eq_of_beq_eq_true u
      have hz0 : z = 0 := hz.mpr (by rw [e2, e4, u])
      subst hz0
      exact hn _ _ _ _ hh5 r ws H locs ls _ hp hs hwo hS hfr ⟨e2_rel.of ads r 0 0, by show (0 : Nat) ≠ 7; decide, hst⟩
    · have hz0 : z ≠ 0 := fun h0 => by
        have q := hz.mp h0
        rw [e2, e4] at q
        have q2 := congrArg (fun u : Int64 => u.toUInt64.toNat) q
        have q2 : (Int64.ofNat a1).toUInt64.toNat = (Int64.ofNat a2).toUInt64.toNat := q2
        rw [f1 a1 tc, f1 a2 td] at q2
        have u : Nat.beq a1 a2 = false := u
        rw [q2, Nat.beq_refl] at u
        cases u
      obtain ⟨k1, k2⟩ := e2_if_t hh5
      have hk0 : ev_key z ≠ 2147483648 := fun h0 => hz0 (ev_key_eqI.mpr (by rw [h0]; decide +kernel))
      by_cases hk : ev_key z = 2147483647
      · have : z = ev_i 4294967295 := ev_key_eqI.mpr (by rw [hk]; decide +kernel)
        subst this
        exact hn _ _ _ _ k1 r ws H locs ls _ hp hs hwo hS hfr ⟨e2_rel.of ads r 4294967295 0, by show (0 : Nat) ≠ 7; decide, hst⟩
      · have : z = ev_i 1 := ev_key_eqI.mpr (by rw [show ev_key z = 2147483649 by omega]; decide +kernel)
        subst this
        exact hn _ _ _ _ k2 r ws H locs ls _ hp hs hwo hS hfr ⟨e2_rel.of ads r 1 0, by show (0 : Nat) ≠ 7; decide, hst⟩
  · exact hn _ _ _ _ hh4 r ws H locs ls _ hp hs hwo hS hfr ⟨⟨z, rfl, z1, z2⟩, by show (11 : Nat) ≠ 7; decide, hst⟩
theorem e2s_l2 (hrow : ∀ (H : Heap) (locs : List Loc) (k n : Nat) (ls : Array Slot) (rest : List Value) (x y : Int64), (∀ z : Int64, W p l e R s m args below meth c H locs k n Q (F0 m (pc + len) ls (.long z :: rest))) → W p l e R s m args below meth c H locs k n Q (F0 m pc ls (.long y :: .long x :: rest))) : e2_sd p l e R s m args below meth c Q nL D cA A ads r0 call F o2_l2 pc len := by
  intro Kn Kj al st E h hh hn hj r ws H locs ls vs hp hs hwo hS hfr hst
  obtain ⟨vb, va, st', rfl, hh1⟩ := e2_2_t hh
  obtain ⟨i1, hh2⟩ := e2_if_t hh1
  obtain ⟨i2, hh3⟩ := e2_if_t hh2
  have hq := hst.cons
  clear hst
  obtain ⟨w, vs, rfl, q2, -, hst⟩ := hq
  have hq := hst.cons
  clear hst
  obtain ⟨w', vs, rfl, q3, -, hst⟩ := hq
  obtain ⟨y, rfl⟩ := q2.long i2
  obtain ⟨x, rfl⟩ := q3.long i1
  exact hrow _ _ _ _ _ _ x y fun z => hn _ _ _ _ hh3 r ws H locs ls _ hp hs hwo hS hfr ⟨⟨z, rfl⟩, by show (5 : Nat) ≠ 7; decide, hst⟩
theorem e2s_lsh (hrow : ∀ (H : Heap) (locs : List Loc) (k n : Nat) (ls : Array Slot) (rest : List Value) (x : Int64) (y : Int32), (∀ z : Int64, W p l e R s m args below meth c H locs k n Q (F0 m (pc + len) ls (.long z :: rest))) → W p l e R s m args below meth c H locs k n Q (F0 m pc ls (.int y :: .long x :: rest))) : e2_sd p l e R s m args below meth c Q nL D cA A ads r0 call F o2_lsh pc len := by
  intro Kn Kj al st E h hh hn hj r ws H locs ls vs hp hs hwo hS hfr hst
  obtain ⟨vb, va, st', rfl, hh1⟩ := e2_2_t hh
  obtain ⟨i1, hh2⟩ := e2_if_t hh1
  obtain ⟨i2, hh3⟩ := e2_if_t hh2
  have hq := hst.cons
  clear hst
  obtain ⟨w, vs, rfl, q2, -, hst⟩ := hq
  have hq := hst.cons
  clear hst
  obtain ⟨w', vs, rfl, q3, -, hst⟩ := hq
  obtain ⟨y, rfl⟩ := q2.intI i2
  obtain ⟨x, rfl⟩ := q3.long i1
  exact hrow _ _ _ _ _ _ x y fun z => hn _ _ _ _ hh3 r ws H locs ls _ hp hs hwo hS hfr ⟨⟨z, rfl⟩, by show (5 : Nat) ≠ 7; decide, hst⟩
theorem e2s_i2l (hrow : ∀ (H : Heap) (locs : List Loc) (k n : Nat) (ls : Array Slot) (rest : List Value) (x : Int32), (∀ z : Int64, W p l e R s m args below meth c H locs k n Q (F0 m (pc + len) ls (.long z :: rest))) → W p l e R s m args below meth c H locs k n Q (F0 m pc ls (.int x :: rest))) : e2_sd p l e R s m args below meth c Q nL D cA A ads r0 call F o2_i2l pc len := by
  intro Kn Kj al st E h hh hn hj r ws H locs ls vs hp hs hwo hS hfr hst
  obtain ⟨va, st', rfl, hh1⟩ := e2_1_t hh
  obtain ⟨i1, hh2⟩ := e2_if_t hh1
  have hq := hst.cons
  clear hst
  obtain ⟨w', vs, rfl, q3, -, hst⟩ := hq
  obtain ⟨x, rfl⟩ := q3.intI i1
  exact hrow _ _ _ _ _ _ x fun z => hn _ _ _ _ hh2 r ws H locs ls _ hp hs hwo hS hfr ⟨⟨z, rfl⟩, by show (5 : Nat) ≠ 7; decide, hst⟩
theorem e2_sw_t {E : e2_E} {a : ev_V} {x y : Nat} {K : Nat → e2_E → Bool} : ∀ {ts : List (Nat × Nat)}, e2_sw E a x y K ts = true → ∀ q ∈ ts, ∀ (ads r : List Nat) (X : Int32), e2_sat r E → e2_rel ads r a (.int X) → x ≤ ev_key X → ev_key X ≤ y → ev_key X = q.1 → ∃ E', K q.2 E' = true ∧ e2_sat r E' := by
  intro ts
  induction ts with
  | nil => intro _ q hq; cases hq
  | cons t ts ih =>
    intro hh q hq ads r X hs ha h1 h2 h3
    have hh : e2_el (Nat.blt t.1 x) (e2_sw E a x y K ts) (e2_el (Nat.blt y t.1) (e2_sw E a x y K ts) (e2_if (e2_sb E a t.1 t.1 fun E' => K t.2 E') (e2_sw E a x y K ts))) = true := hh
    rcases List.mem_cons.mp hq with rfl | hq
    · rcases e2_el_t hh with ⟨z, -⟩ | ⟨-, hh1⟩
      · have z : q.1 < x := Nat.le_of_ble_eq_true z
        omega
      · rcases e2_el_t hh1 with ⟨z, -⟩ | ⟨-, hh2⟩
        · have z : y < q.1 := Nat.le_of_ble_eq_true z
          omega
        · obtain ⟨g1, -⟩ := e2_if_t hh2
          exact e2_sb_t g1 ads r X hs ha (by omega) (by omega)
    · have rest : e2_sw E a x y K ts = true := by
        rcases e2_el_t hh with ⟨-, g⟩ | ⟨-, hh1⟩
        · exact g
        · rcases e2_el_t hh1 with ⟨-, g⟩ | ⟨-, hh2⟩
          · exact g
          · exact (e2_if_t hh2).2
      exact ih rest q hq ads r X hs ha h1 h2 h3
theorem e2_hit_t {x : Nat} : ∀ {ts : List (Nat × Nat)}, e2_hit x ts = true → ∃ q ∈ ts, q.1 = x := by
  intro ts
  induction ts with
  | nil => intro h; exact absurd h (by simp [e2_hit])
  | cons t ts ih =>
    intro h
    rcases e2_el_t (show e2_el (Nat.beq t.1 x) true (e2_hit x ts) = true from h) with ⟨z, -⟩ | ⟨-, g⟩
    · exact ⟨t, List.mem_cons_self, Nat.eq_of_beq_eq_true z⟩
    · obtain ⟨q, q1, q2⟩ := ih g
      exact ⟨q, List.mem_cons_of_mem _ q1, q2⟩
theorem e2s_sw {ts : List (Nat × Nat)} {dt : Nat} (hrow : ∀ (H : Heap) (locs : List Loc) (k n : Nat) (ls : Array Slot) (rest : List Value) (x : Int32), (∀ q ∈ ts, ev_key x = q.1 → W p l e R s m args below meth c H locs k n Q (F0 m q.2 ls rest)) → ((∀ q ∈ ts, ev_key x ≠ q.1) → W p l e R s m args below meth c H locs k n Q (F0 m dt ls rest)) → W p l e R s m args below meth c H locs k n Q (F0 m pc ls (.int x :: rest))) : e2_sd p l e R s m args below meth c Q nL D cA A ads r0 call F (o2_sw ts dt) pc len := by
  intro Kn Kj al st E h hh hn hj r ws H locs ls vs hp hs hwo hS hfr hst
  obtain ⟨va, st', rfl, hh1⟩ := e2_1_t hh
  obtain ⟨i1, x, y, hh2, hb⟩ := e2_rng_t hh1
  obtain ⟨hh3, hh4⟩ := e2_if_t hh2
  have hq := hst.cons
  clear hst
  obtain ⟨w', vs, rfl, q3, -, hst⟩ := hq
  obtain ⟨X, rfl⟩ := q3.intI i1
  obtain ⟨b1, b2⟩ := hb ads r X hs q3
  refine hrow _ _ _ _ _ _ X (fun q hq hk => ?_) (fun hne => ?_)
  · obtain ⟨E', g1, g2⟩ := e2_sw_t hh3 q hq ads r X hs q3 b1 b2 hk
    exact hj _ _ _ _ _ g1 r ws H locs ls _ hp g2 hwo hS hfr hst
  · rcases e2_el_t hh4 with ⟨z, hh5⟩ | ⟨-, hh5⟩
    · have z : x = y := Nat.eq_of_beq_eq_true z
      rcases e2_el_t hh5 with ⟨g, -⟩ | ⟨-, g⟩
      · obtain ⟨q, q1, q2⟩ := e2_hit_t g
        exact absurd (show ev_key X = q.1 by omega) (hne q q1)
      · exact hj _ _ _ _ _ g r ws H locs ls _ hp hs hwo hS hfr hst
    · exact hj _ _ _ _ _ hh5 r ws H locs ls _ hp hs hwo hS hfr hst
theorem e2_all_t {k : Nat → Bool} : ∀ {n : Nat}, e2_all n k = true → ∀ j, j ≤ n → k j = true := by
  intro n
  induction n with
  | zero => intro h j hj; rw [show j = 0 by omega]; exact h
  | succ n ih =>
    intro h j hj
    obtain ⟨h1, h2⟩ := e2_if_t (show e2_if (k (Nat.succ n)) (e2_all n k) = true from h)
    by_cases hz : j = n + 1
    · rw [hz]; exact h1
    · exact ih h2 j (by omega)
theorem e2_spl_t {E : e2_E} {st : List ev_V} {k} (hh : e2_spl E st k = true) {ads r : List Nat} {vs : List Value} (hs : e2_sat r E) (hst : e2_relS ads r st vs) : ∃ st' E', k st' E' = true ∧ e2_sat r E' ∧ e2_relS ads r st' vs := by
  obtain ⟨v, st', rfl, hh1⟩ := e2_1_t hh
  have hh1 : e2_el (Nat.beq v.1 1) (e2_rng E v fun x y => e2_if (Nat.ble (Nat.sub y x) 1200) (e2_all (Nat.sub y x) fun j => ev_fN (Nat.add x j) fun z => e2_sb E v z z fun E' => ev_fN (Nat.mod (Nat.add z 2147483648) 4294967296) fun u => k ((0, u, 0) :: st') E')) (k (v :: st') E) = true := hh1
  rcases e2_el_t hh1 with ⟨-, hh2⟩ | ⟨-, hh2⟩
  · obtain ⟨i1, x, y, hh3, hb⟩ := e2_rng_t hh2
    obtain ⟨-, hh4⟩ := e2_if_t hh3
    have hq := hst.cons
    clear hst
    obtain ⟨w', vs, rfl, q3, q7, hst⟩ := hq
    obtain ⟨X, rfl⟩ := q3.intI i1
    obtain ⟨b1, b2⟩ := hb ads r X hs q3
    have g := e2_all_t hh4 (ev_key X - x) (show _ ≤ y - x by omega)
    rw [ev_fN_eq, show Nat.add x (ev_key X - x) = ev_key X from (show x + (ev_key X - x) = ev_key X by omega)] at g
    obtain ⟨E', g1, g2⟩ := e2_sb_t g ads r X hs q3 (Nat.le_refl _) (Nat.le_refl _)
    rw [ev_fN_eq] at g1
    refine ⟨_, E', g1, g2, ?_, by show (0 : Nat) ≠ 7; decide, hst⟩
    show Value.int X = .int (ev_i _)
    have hk := ev_key_of ((ev_key X + 2147483648) % 4294967296)
    have hl := ev_key_lt X
    exact congrArg Value.int (ev_key_eqI.mpr (by rw [show ev_key (ev_i (Nat.mod (Nat.add (ev_key X) 2147483648) 4294967296)) = ((ev_key X + 2147483648) % 4294967296 + 2147483648) % 4294967296 from hk]; omega))
  · exact ⟨_, E, hh2, hs, hst⟩
theorem e2s_S {op : e2_Op} (hop : e2_sd p l e R s m args below meth c Q nL D cA A ads r0 call F op pc len) : e2_sd p l e R s m args below meth c Q nL D cA A ads r0 call F (o2_S op) pc len := by
  intro Kn Kj al st E h hh hn hj
  refine hop _ _ al st E h hh (fun al st E h hk => ?_) hj
  intro r ws H locs ls vs hp hs hwo hS hfr hst
  obtain ⟨st', E', g1, g2, g3⟩ := e2_spl_t hk hs hst
  exact hn _ _ _ _ g1 r ws H locs ls vs hp g2 hwo hS hfr g3
theorem e2_bk_t {v : ev_V} {Kn : e2_S} {al st : List ev_V} {E : e2_E} {h : ev_H} (hh : e2_bk v Kn al st E h = true) : (v.1 = 9 ∧ Kn al st E h = true) ∨ (v.1 ≠ 9 ∧ ∃ v', v'.1 ≠ 9 ∧ (v.1 ≠ 7 → v'.1 ≠ 7) ∧ Kn al (v' :: st) E h = true ∧ ∀ (ads r : List Nat) (w : Value), e2_sat r E → e2_rel ads r v w → e2_rel ads r v' w) := by
  obtain ⟨t, a, b⟩ := v
  rcases e2_el_t (show e2_el (Nat.beq t 9) (Kn al st E h) (e2_el (Nat.beq t 12) (e2_get E (Nat.mod a 8) fun B => e2_b B fun _ hi _ _ => ev_fN (Nat.sub hi (Nat.div a 8)) fun y => Kn al ((11, b, y) :: st) E h) (Kn al ((t, a, b) :: st) E h)) = true from hh) with ⟨z, g⟩ | ⟨z, g⟩
  · exact Or.inl ⟨Nat.eq_of_beq_eq_true z, g⟩
  · have n9 : t ≠ 9 := fun q => by rw [q] at z; exact absurd z (by decide)
    rcases e2_el_t g with ⟨z2, g2⟩ | ⟨-, g2⟩
    · have z2 : t = 12 := Nat.eq_of_beq_eq_true z2
      obtain ⟨⟨lo, hi, q, f⟩, g3, g4⟩ := e2_get_t g2
      have g4 : ev_fN (Nat.sub hi (Nat.div a 8)) (fun y => Kn al ((11, b, y) :: st) E h) = true := g4
      rw [ev_fN_eq] at g4
      clear hh g g2 z
      subst z2
      refine Or.inr ⟨n9, (11, b, hi - a / 8), by show (11 : Nat) ≠ 9; decide, fun _ => by show (11 : Nat) ≠ 7; decide, g4, fun ads r w hs hr => ?_⟩
      obtain ⟨x, k, e1, e2, e3, e4⟩ := hr
      obtain ⟨k2, kb, f1, -, f3, -, -⟩ := hs.get g3
      have f1 : k2 = k := Option.some.inj ((show r[a % 8]? = some k2 from f1).symm.trans (show r[a % 8]? = some k from e2))
      have f3 : k2 ≤ hi := f3
      have e3 : ev_key x + a / 8 ≤ k := e3
      have e4 : b ≤ ev_key x := e4
      exact ⟨x, e1, e4, by show ev_key x ≤ hi - a / 8; omega⟩
    · exact Or.inr ⟨n9, (t, a, b), n9, id, g2, fun _ _ _ _ hr => hr⟩
theorem e2_AA {D : va_G} {cA : e2_cA} {A : Nat → Prop} {ads r : List Nat} {ws : va_W} {h : ev_H} {H H0 : Heap} {locs : List Loc} (hwo : e2_wo D cA A ads r ws h H) (hA : ∀ q, H0.size ≤ q → A q) (hS : va_S A H0 H locs) : ∀ x, va_A ws H.size x → A x := by
  intro x hx
  rcases hx with ⟨k, en, hk⟩ | hx
  · exact hwo.2.2.2.2.1.2 k _ hk
  · exact hA x (Nat.le_trans hS.1 hx)
/-- behind a call: the world is what the callee says, the rest of the frame stays -/
theorem e2_after (hcx : e2_cx p R s m args c cc own nL D cA A d) {Kn : e2_S} {al rst : List ev_V} (hn : ∀ al st E h, Kn al st E h = true → e2_gd p l e R s m args below meth c Q nL D cA A ads r0 (pc + 3) al st E h)
    {r : List Nat} {ws : va_W} {h : ev_H} {H : Heap} {locs : List Loc} {ls : Array Slot} {vs st0 : List Value} (hp : ∃ x, r = r0 ++ x) (hwo : e2_wo D cA A ads r ws h H) (hS : va_S A s.heap H locs) (hfr : e2_fr ads r nL al ls) (hst : e2_relS ads r rst vs) {a : Array Value}
    (hr : va_Run p l e R s m args below meth c H locs 0 0 0 0 (F0 m pc ls st0) vs (e2_Qc D cA ads r ws H.size (fun v E h => e2_bk v Kn al rst E h) a) (va_A ws H.size)) : W p l e R s m args below meth c H locs 0 0 Q (F0 m pc ls st0) := by
  obtain ⟨-, -, -, -, -, hA, -, -, -, -⟩ := hcx
  have hAA : ∀ x, va_A ws H.size x → A x := by
    intro x hx
    rcases hx with ⟨k, en, hk⟩ | hx
    · exact hwo.2.2.2.2.1.2 k _ hk
    · exact hA x (Nat.le_trans hS.1 hx)
  refine ev_call hr (A1 := va_A ws H.size) (fun st oc t hq => hq.2) hS hAA hAA ?_
  intro w st t locs1 hq hvm hS1
  obtain ⟨⟨v, E', h', r', ws', w', hF, hv, hp', hs', hwo', hret⟩, -⟩ := hq
  cases hv
  have hwo2 := hwo'.any (B := A) (fun k x _ hx => hAA _ hx)
  rcases e2_bk_t hF with ⟨z1, z2⟩ | ⟨z1, v', z9, z7, z2, z3⟩
  · rcases hret with ⟨-, rfl⟩ | ⟨hx, -⟩
    · exact hn _ _ _ _ z2 r' ws' _ locs1 ls _ (e2_ext hp hp') hs' hwo2 hS1 (hfr.mono hp') (hst.mono hp')
    · exact absurd z1 hx
  · rcases hret with ⟨hx, -⟩ | ⟨-, h7, x, rfl, hx⟩
    · exact absurd hx z1
    · exact hn _ _ _ _ z2 r' ws' _ locs1 ls _ (e2_ext hp hp') hs' hwo2 hS1 (hfr.mono hp') ⟨z3 ads r' x hs' hx, z7 h7, hst.mono hp'⟩
theorem e2s_virt {k n ci N : Nat} {C : String} {T : u_T} {M : ev_M} (hlen : len = 3) (hci : ci < 50) (hC : en_classes[ci]? = some (C, T, N)) (hcx : e2_cx p R s m args c cc own nL D cA A d) (hcall : ∀ as E h K, call k as E h K = true → e2_Met l M d as E h K)
    (hrun : ∀ (H : Heap) (locs : List Loc) (cells slots mc ms : Nat) (ls : Array Slot) (rest As : List Value) (b : Nat) (Pc : Array Value → State → Prop) (Qc : Array Value → State → Outcome → State → Prop) (free : Addr → Prop), Met l M.1 (ev_ws M) (ev_rm d mc ms) Pc Qc mc ms free → PreV s H C b Pc As → As.length = n → ls.size = nL → (rest.map fun v => v.category).sum ≤ 8 → cells + mc ≤ R.cells ∧ slots + ms ≤ R.slots → va_Run p l e R s m args below meth c H locs cells slots mc ms (F0 m pc ls (As.reverse ++ .ref b :: rest)) rest (Qc (Value.ref b :: As).toArray) free) : e2_sd p l e R s m args below meth c Q nL D cA A ads r0 call F (o2_virt k n ci) pc len := by
  subst hlen
  intro Kn Kj al st E h hh hn hj r ws H locs ls vs hp hs hwo hS hfr hst
  obtain ⟨qs, s1, rfl, hqn, hh1⟩ := e2_cut_t n hh
  obtain ⟨vo, rst, rfl, hh2⟩ := e2_1_t hh1
  obtain ⟨t1, t2, hh3⟩ := e2_cell_t hh2
  obtain ⟨t3, hh4⟩ := e2_if_t hh3
  have t3 : (ev_hg h vo.2.1).1 = ci := Nat.eq_of_beq_eq_true t3
  obtain ⟨t4, hh5⟩ := e2_if_t hh4
  have hmet := hcall _ _ _ _ hh5
  have hq := hst.split
  clear hst
  obtain ⟨aq, vs1, rfl, hs1, hst⟩ := hq
  have hq := hst.cons
  clear hst
  obtain ⟨w', vs, rfl, q3, q7, hst⟩ := hq
  obtain ⟨b, e1, rfl⟩ := q3.ref t1
  obtain ⟨en, e2, e3⟩ := hwo.cell t2 e1
  obtain ⟨fs, rfl, -, -⟩ := e3.obj (by omega)
  rw [t3] at e2
  have hM := hmet D cA ads r ws (.ref b :: aq.reverse) H.size hs ⟨q3, q7, by simpa using hs1.rev⟩
  have hK := hcx.2.2.2.2.1
  have hNw := hcx.2.2.2.2.2.2.2.2.2.1
  have hSt := hcx.2.2.2.2.2.2.2.2.2.2
  have hAA := e2_AA (ws := ws) hwo hcx.2.2.2.2.2.1 hS
  have := hrun H locs 0 0 _ _ ls vs aq.reverse b _ _ _ hM ⟨e2_Pc.blind, va_recv hK hwo.2.2.2.1 hC e2, fun U hU hW => ⟨rfl, by rw [hU], by rw [hU]; exact hwo.any (fun _ _ _ _ => trivial), va_K.moved hW.alike hK, hNw.warm hW, hSt.into hS hW hU hAA⟩⟩ (by rw [List.length_reverse, hs1.len]; exact hqn) hfr.2.choose_spec.1.1 (e2_small_ok hst t4) ⟨Nat.zero_le _, Nat.zero_le _⟩
  rw [List.reverse_reverse] at this
  exact e2_after hcx hn hp hwo hS hfr hst this
theorem e2s_stat {k n : Nat} {M : ev_M} (hlen : len = 3) (hcx : e2_cx p R s m args c cc own nL D cA A d) (hcall : ∀ as E h K, call k as E h K = true → e2_Met l M d as E h K)
    (hrun : ∀ (H : Heap) (locs : List Loc) (cells slots mc ms : Nat) (ls : Array Slot) (rest As : List Value) (Pc : Array Value → State → Prop) (Qc : Array Value → State → Outcome → State → Prop) (free : Addr → Prop), Met l M.1 (ev_ws M) (ev_rm d mc ms) Pc Qc mc ms free → PreS s H Pc As → As.length = n → ls.size = nL → (rest.map fun v => v.category).sum ≤ 8 → cells + mc ≤ R.cells ∧ slots + ms ≤ R.slots → va_Run p l e R s m args below meth c H locs cells slots mc ms (F0 m pc ls (As.reverse ++ rest)) rest (Qc As.toArray) free) : e2_sd p l e R s m args below meth c Q nL D cA A ads r0 call F (o2_stat k n) pc len := by
  subst hlen
  intro Kn Kj al st E h hh hn hj r ws H locs ls vs hp hs hwo hS hfr hst
  obtain ⟨qs, rst, rfl, hqn, hh1⟩ := e2_cut_t n hh
  obtain ⟨t4, hh5⟩ := e2_if_t hh1
  have hmet := hcall _ _ _ _ hh5
  have hq := hst.split
  clear hst
  obtain ⟨aq, vs, rfl, hs1, hst⟩ := hq
  have hM := hmet D cA ads r ws aq.reverse H.size hs (by simpa using hs1.rev)
  have hK := hcx.2.2.2.2.1
  have hNw := hcx.2.2.2.2.2.2.2.2.2.1
  have hSt := hcx.2.2.2.2.2.2.2.2.2.2
  have hAA := e2_AA (ws := ws) hwo hcx.2.2.2.2.2.1 hS
  have := hrun H locs 0 0 _ _ ls vs aq.reverse _ _ _ hM ⟨e2_Pc.blind, fun U hU hW => ⟨rfl, by rw [hU], by rw [hU]; exact hwo.any (fun _ _ _ _ => trivial), va_K.moved hW.alike hK, hNw.warm hW, hSt.into hS hW hU hAA⟩⟩ (by rw [List.length_reverse, hs1.len]; exact hqn) hfr.2.choose_spec.1.1 (e2_small_ok hst t4) ⟨Nat.zero_le _, Nat.zero_le _⟩
  rw [List.reverse_reverse] at this
  exact e2_after hcx hn hp hwo hS hfr hst this
theorem e2s_copy (hrow : ∀ (H : Heap) (locs : List Loc) (k' n' : Nat) (ls : Array Slot) (rest : List Value) (ws : va_W) (a0 a1 q0 q1 N0 N1 : Nat) (f g : Nat → Int32) (sp dp n : Int32), va_P D en_classes ws H → va_D A ws → va_S A s.heap H locs → ws[q0]? = some (a0, .inl (cA.1 0, N0, .inl f)) → ws[q1]? = some (a1, .inl (cA.1 0, N1, .inl g)) → ¬ sp < 0 → ¬ dp < 0 → ¬ n < 0 → sp.toNatClampNeg + n.toNatClampNeg ≤ N0 → dp.toNatClampNeg + n.toNatClampNeg ≤ N1 → ls.size = nL → (rest.map fun v => v.category).sum ≤ 8 →
    (∀ (H1 : Heap) (locs1 : List Loc), va_P D en_classes (ws.set q1 (a1, .inl (cA.1 0, N1, .inl (va_cpy f g sp.toNatClampNeg dp.toNatClampNeg n.toNatClampNeg)))) H1 → va_D A (ws.set q1 (a1, .inl (cA.1 0, N1, .inl (va_cpy f g sp.toNatClampNeg dp.toNatClampNeg n.toNatClampNeg)))) → va_S A s.heap H1 locs1 → W p l e R s m args below meth c H1 locs1 k' n' Q (F0 m (pc + len) ls rest)) → W p l e R s m args below meth c H locs k' n' Q (F0 m pc ls (.int n :: .int dp :: .ref a1 :: .int sp :: .ref a0 :: rest))) : e2_sd p l e R s m args below meth c Q nL D cA A ads r0 call F o2_copy pc len := by
  intro Kn Kj al st E h hh hn hj r ws H locs ls vs hp hs hwo hS hfr hst
  obtain ⟨nv, vd, v1, r1, rfl, hh1⟩ := e2_3_t hh
  obtain ⟨vs0, v0, st', rfl, hh2⟩ := e2_2_t hh1
  obtain ⟨t4, hh3⟩ := e2_if_t hh2
  obtain ⟨t1, t2, hh4⟩ := e2_cell_t hh3
  obtain ⟨u1, u2, hh5⟩ := e2_cell_t hh4
  obtain ⟨x1, hh6⟩ := e2_if_t hh5
  obtain ⟨x2, hh7⟩ := e2_if_t hh6
  have x1 : (ev_hg h v0.2.1).1 = 54 := Nat.eq_of_beq_eq_true x1
  have x2 : (ev_hg h v1.2.1).1 = 54 := Nat.eq_of_beq_eq_true x2
  obtain ⟨-, hh8⟩ := e2_if_t hh7
  obtain ⟨is, s0, s1, hh9, hs6, hsb⟩ := e2_ix_t hh8
  obtain ⟨id, d0, d1, hh10, hd6, hdb⟩ := e2_ix_t hh9
  obtain ⟨in_, n0, n1, hh11, hn6, hnb⟩ := e2_ix_t hh10
  obtain ⟨x3, hh12⟩ := e2_if_t hh11
  have x3 : n0 = n1 := Nat.eq_of_beq_eq_true x3
  have hq := hst.cons
  clear hst
  obtain ⟨w1, vs, rfl, q1, -, hst⟩ := hq
  have hq := hst.cons
  clear hst
  obtain ⟨w2, vs, rfl, q2, -, hst⟩ := hq
  have hq := hst.cons
  clear hst
  obtain ⟨w3, vs, rfl, q3, -, hst⟩ := hq
  have hq := hst.cons
  clear hst
  obtain ⟨w4, vs, rfl, q4, -, hst⟩ := hq
  have hq := hst.cons
  clear hst
  obtain ⟨w5, vs, rfl, q5, -, hst⟩ := hq
  obtain ⟨n, rfl⟩ := q1.intI in_
  obtain ⟨dp, rfl⟩ := q2.intI id
  obtain ⟨sp, rfl⟩ := q4.intI is
  obtain ⟨nn, a1, a2, rfl⟩ := hnb ads r n hs q1
  obtain ⟨nd, b1, b2, rfl⟩ := hdb ads r dp hs q2
  obtain ⟨ns, c1, c2, rfl⟩ := hsb ads r sp hs q4
  obtain ⟨ad1, e1, rfl⟩ := q3.ref u1
  obtain ⟨ad0, e2, rfl⟩ := q5.ref t1
  obtain ⟨en1, f1, f2⟩ := hwo.cell u2 e1
  obtain ⟨en0, f3, f4⟩ := hwo.cell t2 e2
  obtain ⟨N1, bb1, lo1, hi1, g, l1, rfl, l3⟩ := f2.uni (by omega) (by omega)
  obtain ⟨N0, bb0, lo0, hi0, f, k1, rfl, k3⟩ := f4.uni (by omega) (by omega)
  rw [l1, k1] at hh12
  obtain ⟨na, ua, sa, la, hh13⟩ := e2_2_t hh12
  cases la
  obtain ⟨nb, ub, sb, lb, hh14⟩ := e2_2_t hh13
  cases lb
  obtain ⟨y1, hh15⟩ := e2_if_t hh14
  obtain ⟨y2, hh16⟩ := e2_if_t hh15
  obtain ⟨y3, hh17⟩ := e2_if_t hh16
  obtain ⟨y4, hh18⟩ := e2_if_t hh17
  have y1 : s1 + n0 ≤ N0 := Nat.le_of_ble_eq_true y1
  have y2 : d1 + n0 ≤ N1 := Nat.le_of_ble_eq_true y2
  have y3 : lo1 ≤ lo0 := Nat.le_of_ble_eq_true y3
  have y4 : hi0 ≤ hi1 := Nat.le_of_ble_eq_true y4
  have z1 : (ev_i nn).toNatClampNeg = nn := ev_cl (by omega)
  have z2 : (ev_i nd).toNatClampNeg = nd := ev_cl (by omega)
  have z3 : (ev_i ns).toNatClampNeg = ns := ev_cl (by omega)
  rw [x2] at f1
  rw [x1] at f3
  refine hrow _ _ _ _ _ _ ws ad0 ad1 _ _ N0 N1 f g _ _ _ hwo.2.2.2.1 hwo.2.2.2.2.1 hS f3 f1 (nI_pos (show ns < 2 ^ 31 by omega)) (nI_pos (show nd < 2 ^ 31 by omega)) (nI_pos (show nn < 2 ^ 31 by omega)) (by omega) (by omega) hfr.2.choose_spec.1.1 (e2_small_ok hst t4) fun H1 locs1 hP hD hS1 => ?_
  refine hn _ _ _ _ hh18 r _ H1 locs1 ls _ hp hs (hwo.keep u2 f1 (Or.inr (Or.inr (Or.inr (Or.inl ⟨by omega, by omega, N1, bb1, lo1, hi1, _, l1, by rw [x2], fun j hj' => ?_⟩)))) hP hD) hS1 hfr hst
  simp only [va_cpy]
  rw [z1, z2, z3]
  by_cases hr : nd ≤ j ∧ j < nd + nn
  · rw [if_pos hr]
    obtain ⟨p1, p2⟩ := k3 (ns + (j - nd)) (by omega)
    exact ⟨by omega, by omega⟩
  · rw [if_neg hr]
    exact l3 j hj'
theorem e2s_iret {kd : Nat} (hfin : ∀ (r : List Nat) (ws : va_W) (H : Heap) (locs : List Loc) (ls : Array Slot) (w : Value) (v : ev_V) (E : e2_E) (h : ev_H), (∃ x, r = r0 ++ x) → F v E h = true → e2_sat r E → e2_wo D cA A ads r ws h H → va_S A s.heap H locs → v.1 ≠ 9 → v.1 ≠ 7 → e2_rel ads r v w → ev_fits kd w → W p l e R s m args below meth c H locs 0 0 Q (F0 m pc ls [w])) : e2_sd p l e R s m args below meth c Q nL D cA A ads r0 call F (o2_iret kd) pc len := by
  intro Kn Kj al st E h hh hn hj r ws H locs ls vs hp hs hwo hS hfr hst
  obtain ⟨v, st', rfl, hh1⟩ := e2_1_t hh
  obtain ⟨hh2, h9, hf⟩ := e2_kd_t hh1
  obtain ⟨rfl, hh3⟩ := e2_0_t hh2
  have hq := hst.cons
  clear hst
  obtain ⟨w, vs, rfl, q2, q7, hst⟩ := hq
  have hst := hst.nil
  subst hst
  exact hfin r ws H locs ls w v E h hp hh3 hs hwo hS h9 q7 q2 (hf ads r w hs q2)
theorem e2s_vret (hfin : ∀ (r : List Nat) (ws : va_W) (H : Heap) (locs : List Loc) (ls : Array Slot) (E : e2_E) (h : ev_H), (∃ x, r = r0 ++ x) → F (9, 0, 0) E h = true → e2_sat r E → e2_wo D cA A ads r ws h H → va_S A s.heap H locs → W p l e R s m args below meth c H locs 0 0 Q (F0 m pc ls [])) : e2_sd p l e R s m args below meth c Q nL D cA A ads r0 call F o2_vret pc len := by
  intro Kn Kj al st E h hh hn hj r ws H locs ls vs hp hs hwo hS hfr hst
  obtain ⟨rfl, hh1⟩ := e2_0_t hh
  have hst := hst.nil
  subst hst
  exact hfin r ws H locs ls E h hp hh1 hs hwo hS
end E2Calls
