/-! THE LAW'S CALLS from state to state -/
def lw_two (tc : Nat) : Prop := tc = 1 ∨ tc = 17
/-- closed: what the class's printed heaps must be -/
def lw_F1 (hC hN : Nat → ev_H) (EC : e2_E) : Prop := (∀ T sz, T ≤ 100000 → 2147483652 ≤ sz → sz ≤ 2147483668 → e2_sat [lw_T T, sz] EC) ∧ ∀ tc, lw_two tc → lw_okC (hN tc) (hC tc) tc ∧ lw_okL (hC tc) ∧ e2_idh 1 8 (hC tc) = true
/-- closed: what the reference's must be -/
def lw_F2 (hB : ev_H) (hR hM : Nat → Nat → ev_H) (ER : e2_E) : Prop := (∀ T sg ac un, T ≤ 100000 → 2147483648 ≤ sg → sg ≤ 2147483656 → 2147483648 ≤ ac → ac ≤ 2147483688 → 2147483648 ≤ un → un ≤ 2147483688 → e2_sat [lw_T T, sg, ac, un] ER) ∧ lw_BB hB ∧ ∀ b m, b < 2 → m < 4 → lw_W hB (hR b m) b m ∧ lw_okT (hR b m) ∧ lw_okN (hM b m) (hR b m) b ∧ e2_idh 1 8 (hR b m) = true
/-- the state between two calls -/
def lw_St (hC : Nat → ev_H) (hR : Nat → Nat → ev_H) (D : va_G) (A : Nat → Prop) (c1 : Nat → ClassId) (ads : List Nat) (T1 T2 : Nat) (ws : va_W) (H : Heap) : Prop := lw_b D A ads ws H ∧ (∃ tc, lw_two tc ∧ lw_CL c1 ads ws (hC tc) T1) ∧ ∃ b m, b < 2 ∧ m < 4 ∧ lw_RL c1 ads ws b m (hR b m) T2
/-- a call of the class, shown by the engine -/
def lw_cC (l : Launch) (hC hN : Nat → ev_H) (EC : e2_E) (k : Nat) (as : List ev_V) : Prop := ∀ tc, lw_two tc → ∃ d rs, d ≤ 1000 ∧ (∀ M, e2_MT[k]? = some M → e2_Met l M d ((2, 0, 0) :: as) EC (hN tc) (e2_fin rs)) ∧ ∀ q ∈ rs, q.1 = (11, 0, 4294967295) ∧ e2_idh 2 8 q.2 = true ∧ ∃ tc', lw_two tc' ∧ e2_hle EC 8 (hC tc') q.2 = true
def lw_6 (h : ev_H) : Prop := ∃ l, ev_hg h 83 = (10, l) ∧ ((l[6]? = some (1, 2, 4294967296) ∧ l[34]? = some (1, 3, 4294967296)) ∨ (l[6]? = some (11, 2147483648, 2147483688) ∧ l[34]? = some (0, 0, 0)))
/-- a call of the reference, shown by the engine -/
def lw_cR (l : Launch) (hR hM : Nat → Nat → ev_H) (ER : e2_E) (k : Nat) (as : List ev_V) : Prop := ∀ b m, b < 2 → m < 4 → ∃ d rs, d ≤ 1000 ∧ (∀ M, e2_MT[k]? = some M → e2_Met l M d ((2, 83, 0) :: as) ER (hM b m) (e2_fin rs)) ∧ ∀ q ∈ rs, q.1 = (11, 0, 4294967295) ∧ e2_idh 4 8 q.2 = true ∧ e2_hle ER 8 (hR b m) q.2 = true ∧ ev_hg q.2 88 = (50, (List.replicate 2 (11, 2147483648, 2147483656)).set b (1, 1, 4294967296)) ∧ ev_hg q.2 97 = (50, lw_l97 b) ∧ lw_6 q.2
theorem lw_CL.same {c1 : Nat → ClassId} {ads : List Nat} {ws ws2 : va_W} {hW : ev_H} {T : Nat} (h : lw_CL c1 ads ws hW T) (hs : ∀ k, k < 83 → ∀ e, lw_c ws2 k e ↔ lw_c ws k e) : lw_CL c1 ads ws2 hW T := fun k k1 k2 => by
  obtain ⟨e, q1, q2⟩ := h k k1 k2
  exact ⟨e, (hs k k2 e).mpr q1, q2⟩
theorem lw_retT {E : e2_E} {ads r : List Nat} {v g : ev_V} {w : Option Value} (hs : e2_sat r E) (h : e2_ret ads r v w) (hg : e2_fv1 E g v = true) (e : g = (11, 0, 4294967295)) : ∃ x, w = some (.int x) := by
  have := h.le hs hg
  subst e
  rcases this with ⟨z, -⟩ | ⟨-, -, x, rfl, y, rfl, -⟩
  · exact absurd z (by decide)
  · exact ⟨y, rfl⟩
theorem lw_retI {ads r : List Nat} {z : Int} {w : Option Value} (h : e2_ret ads r (mw_i z) w) : w = some (.int (Int32.ofInt z)) := by
  rcases h with ⟨z, -⟩ | ⟨-, -, x, rfl, hx⟩
  · exact absurd z (by show (0 : Nat) ≠ 9; decide)
  · have hx : x = .int (ev_i (ev_u (Int32.ofInt z))) := hx
    rw [hx, ev_iu]
theorem lw_injR {n : Nat} {a b : List Value} (h : (Sum.inr (n, a) : va_E) = Sum.inr (n, b)) : a = b := by
  injection h with h
  injection h
section LawSt
variable {p : Program} {l : Launch} {e : Env} {s : State} {m : MethodId} {below : List Frame} {meth : Method} {c : Code} {b L : Nat} {xs : Nat → Int32} {D : va_G} {c1 : Nat → ClassId} {Q : State → Prop} {hC hN : Nat → ev_H} {EC ER : e2_E} {hB : ev_H} {hR hM : Nat → Nat → ev_H}
theorem lw_callC (hcx : lw_cx p s m c b L xs D (lw_no c1)) (hf : lw_F1 hC hN EC) {pc idx k n : Nat} {ws0 : List Nat} (hok : ev_ok1 e2_MT R_law false none pc (.invokevirtual idx) 3 k n 0 9 ws0 = true) (hdg : decode code pc = .ok (.invokevirtual idx, 3)) {as : List ev_V} (hc : lw_cC l hC hN EC k as) {ads : List Nat} {ws : va_W} {H : Heap} {locs : List Loc} {ls : Array Slot} {rest As : List Value} {bq cells slots T1 T2 : Nat} (hT : T1 ≤ 100000) (hst : lw_St hC hR D (fun q => s.heap.size ≤ q) c1 ads T1 T2 ws H) (hS : va_S (fun q => s.heap.size ≤ q) s.heap H locs) (hAs : ∀ r, e2_relS ads r as As) (hbq : ads[0]? = some bq) (hn : As.length = n) (hls : ls.size = 4) (hsum : rest.length ≤ 4) (hr1 : cells ≤ 600000) (hr2 : slots ≤ 7302250)
    (kk : ∀ (ws' : va_W) (H1 : Heap) (locs1 : List Loc) (x : Int32), lw_St hC hR D (fun q => s.heap.size ≤ q) c1 ads T1 T2 ws' H1 → va_S (fun q => s.heap.size ≤ q) s.heap H1 locs1 → W p l e room_1 s m #[Value.ref b] below meth c H1 locs1 cells slots Q (F0 m (pc + 3) ls (.int x :: rest))) : W p l e room_1 s m #[Value.ref b] below meth c H locs cells slots Q (F0 m pc ls (As.reverse ++ .ref bq :: rest)) := by
  obtain ⟨hB0, ⟨tc, htc, hCL⟩, b1, m1, hb, hm, hRL⟩ := hst
  obtain ⟨f2, f3⟩ := hf
  obtain ⟨okC, okL, id1⟩ := f3 tc htc
  obtain ⟨sz, z1, z2, hh⟩ := hCL.nm okC
  obtain ⟨k1, -, -, k4, k5, k6, k7, -⟩ := id okC
  have hsat := f2 T1 sz hT z1 z2
  have hwo : e2_wo D (lw_cA c1 ws b1 m1) (fun q => s.heap.size ≤ q) ads [lw_T T1, sz] ws (hN tc) H := lw_mk (lo := 0) (hi := 83) hB0 (lw_okA hb hm hRL.2.1) (by omega) (fun k z1 z2 => by
    obtain ⟨e, q1, q2⟩ := hh k z1 z2
    exact ⟨e, q1, lw_sw q2 (k5 k z2) rfl⟩) k4 k6 k7
  have h9 : (ev_hg (hN tc) 0).1 = 9 := by
    obtain ⟨⟨l0, y1, -⟩, -⟩ := okL
    rw [k1 0 (by omega) (by rcases htc with rfl | rfl <;> omega) (by omega), y1]
  obtain ⟨d, rs, hd, hM, hrs⟩ := hc tc htc
  refine lw_call (cA := lw_cA c1 ws b1 m1) hcx hok hdg hd hM (by omega) h9 (by omega) hsat hwo hS (hAs _) hbq hn hls hsum hr1 hr2 fun r' ws' E' h' v H1 locs1 w hp hF hs' hwo' hS1 hret => ?_
  obtain ⟨q, hq, q1, q2⟩ := e2_fin_ok hF
  obtain ⟨e1, i2, tc', htc', hle⟩ := hrs q hq
  obtain ⟨x, rfl⟩ := lw_retT hs' hret q1 e1
  have w1 := (hwo'.le hs' q2).take i2
  have hr : r'.take 2 = [lw_T T1, sz] := by
    obtain ⟨x, rfl⟩ := hp
    rfl
  rw [hr] at w1
  obtain ⟨-, okL', id1'⟩ := f3 tc' htc'
  have w2 := (w1.le hsat hle).take id1'
  have w2 : e2_wo D (lw_cA c1 ws b1 m1) (fun q => s.heap.size ≤ q) ads [lw_T T1] ws' (hC tc') H1 := w2
  exact kk ws' H1 locs1 x ⟨lw_base w2, ⟨tc', htc', fun k z1 z2 => by
    obtain ⟨e, q1, q2⟩ := lw_half w2 0 83 (by omega) k z1 z2
    exact ⟨e, q1, lw_sw q2 (okL'.2.2.2.1 k z2) rfl⟩⟩, b1, m1, hb, hm, hRL.same fun k z1 z2 e => lw_same w2 z2 (okL'.2.2.2.2.1 k z2 (by omega))⟩ hS1
theorem lw_callR (hcx : lw_cx p s m c b L xs D (lw_no c1)) (hf : lw_F2 hB hR hM ER) {pc idx k n : Nat} {ws0 : List Nat} (hok : ev_ok1 e2_MT R_law false none pc (.invokevirtual idx) 3 k n 0 10 ws0 = true) (hdg : decode code pc = .ok (.invokevirtual idx, 3)) {as : List ev_V} (hc : lw_cR l hR hM ER k as) {ads : List Nat} {ws : va_W} {H : Heap} {locs : List Loc} {ls : Array Slot} {rest As : List Value} {bq cells slots T1 T2 : Nat} (hT : T2 ≤ 100000) (hst : lw_St hC hR D (fun q => s.heap.size ≤ q) c1 ads T1 T2 ws H) (hS : va_S (fun q => s.heap.size ≤ q) s.heap H locs) (hAs : ∀ r, e2_relS ads r as As) (hbq : ads[83]? = some bq) (hn : As.length = n) (hls : ls.size = 4) (hsum : rest.length ≤ 4) (hr1 : cells ≤ 600000) (hr2 : slots ≤ 7302250)
    (kk : ∀ (ws' : va_W) (H1 : Heap) (locs1 : List Loc) (x : Int32), lw_St hC hR D (fun q => s.heap.size ≤ q) c1 ads T1 T2 ws' H1 → va_S (fun q => s.heap.size ≤ q) s.heap H1 locs1 → W p l e room_1 s m #[Value.ref b] below meth c H1 locs1 cells slots Q (F0 m (pc + 3) ls (.int x :: rest))) : W p l e room_1 s m #[Value.ref b] below meth c H locs cells slots Q (F0 m pc ls (As.reverse ++ .ref bq :: rest)) := by
  obtain ⟨hB0, ⟨tc, htc, hCL⟩, b1, m1, hb, hm, hRL⟩ := hst
  obtain ⟨f2, hBB, f3⟩ := hf
  obtain ⟨hW1, hT2, okN, id1⟩ := f3 b1 m1 hb hm
  obtain ⟨sg, ac, un, y1, y2, y3, y4, y5, y6, y7, hh⟩ := hRL.nm hb hm hW1.1 okN
  have hsat := f2 T2 sg ac un hT y1 y2 y3 y4 y5 y6
  obtain ⟨n1, n83, n88, n97, nf⟩ := id okN
  have hfr := hW1.1.2.2.2.2.2.2.2.2
  have hwo : e2_wo D (lw_cA c1 ws b1 m1) (fun q => s.heap.size ≤ q) ads [lw_T T2, sg, ac, un] ws (hM b1 m1) H := lw_mk (lo := 83) (hi := 133) hB0 (lw_okA hb hm hRL.2.1) (by omega) hh nf (by rw [nf 50 (by omega) (by omega)]; decide) (by rw [nf 68 (by omega) (by omega)]; decide)
  have h10 : (ev_hg (hM b1 m1) 83).1 = 10 := by rw [n83]
  obtain ⟨d, rs, hd, hMm, hrs⟩ := hc b1 m1 hb hm
  refine lw_call (cA := lw_cA c1 ws b1 m1) hcx hok hdg hd hMm (by omega) h10 (by omega) hsat hwo hS (hAs _) hbq hn hls hsum hr1 hr2 fun r' ws' E' h' v H1 locs1 w hp hF hs' hwo' hS1 hret => ?_
  obtain ⟨q, hq, q1, q2⟩ := e2_fin_ok hF
  obtain ⟨e1, i2, hle, x88, x97, l6, x83, x6⟩ := hrs q hq
  obtain ⟨x, rfl⟩ := lw_retT hs' hret q1 e1
  have w1 := (hwo'.le hs' q2).take i2
  have hr : r'.take 4 = [lw_T T2, sg, ac, un] := by
    obtain ⟨x, rfl⟩ := hp
    rfl
  rw [hr] at w1
  have w2 := (w1.le hsat hle).take id1
  have w2 : e2_wo D (lw_cA c1 ws b1 m1) (fun q => s.heap.size ≤ q) ads [lw_T T2] ws' (hR b1 m1) H1 := w2
  have hau : lw_au ws' := fun vs hvs a u ha hu => by
    obtain ⟨e, q1, q2⟩ := lw_half w1 83 133 (by omega) 83 (by omega) (by omega)
    have := hvs.un q1
    subst this
    rw [x83] at q2
    obtain ⟨vs', hv, v2, v3⟩ := q2.obj (show 10 < 50 by decide)
    have hv : vs = vs' := lw_injR hv
    subst hv
    rcases x6 with ⟨g6, g34⟩ | ⟨g6, g34⟩
    · obtain ⟨w6, w61, a', ka, rfl, ka1, ka2⟩ := v3 6 _ g6
      obtain ⟨w34, w341, u', ku, rfl, ku1, ku2⟩ := v3 34 _ g34
      rw [ha] at w61
      rw [hu] at w341
      cases w61
      cases w341
      have ka1 : some ac = some ka := ka1
      have ku1 : some un = some ku := ku1
      cases ka1
      cases ku1
      have ka2 : ev_key a + 4294967296 = ac + 4294967296 := ka2
      have ku2 : ev_key u + 4294967296 = un + 4294967296 := ku2
      omega
    · obtain ⟨w6, w61, a', rfl, ka1, ka2⟩ := v3 6 _ g6
      obtain ⟨w34, w341, ku⟩ := v3 34 _ g34
      rw [ha] at w61
      rw [hu] at w341
      cases w61
      cases w341
      have ku : Value.int u = .int (ev_i 0) := ku
      injection ku with ku
      have ka2 : ev_key a ≤ 2147483688 := ka2
      have : ev_key u = 2147483648 := by rw [ku]; decide +kernel
      omega
  have hRL2 : lw_RL c1 ads ws' b1 m1 (hR b1 m1) T2 := lw_RL.bk hb hm hW1.1 w1 hsat rfl hle id1 hRL.2.1 x88 x97 hau
  exact kk ws' H1 locs1 x ⟨lw_base w2, ⟨tc, htc, hCL.same fun k z1 e => lw_same w2 (by omega) (hfr k (by omega) (by omega))⟩, b1, m1, hb, hm, hRL2⟩ hS1
theorem lw_sat0 : e2_sat [] [] := ⟨rfl, fun i b hb => by simp at hb⟩
/-- a call of the reference, walked by hand on the exact world -/
theorem lw_callX (hcx : lw_cx p s m c b L xs D (lw_no c1)) (hf : lw_F2 hB hR hM ER) {pc idx k n Dd : Nat} {ws0 : List Nat} (hok : ev_ok1 e2_MT R_law false none pc (.invokevirtual idx) 3 k n 0 10 ws0 = true) (hdg : decode code pc = .ok (.invokevirtual idx, 3)) (hDd : Dd ≤ 1000) {as : List ev_V} {ads : List Nat} {ws : va_W} {H : Heap} {locs : List Loc} {ls : Array Slot} {rest As : List Value} {bq cells slots T1 T2 : Nat} {P : Int → Nat → Prop} (hc : ∀ b m, b < 2 → m < 4 → lw_RL c1 ads ws b m (hR b m) T2 → sy_C l Dd k ((2, 83, 0) :: as) [] (lw_x ws) (fun v _ h' => ∃ z T3, v = mw_i z ∧ P z T3 ∧ lw_Q ads T3 hR ws v h')) (hst : lw_St hC hR D (fun q => s.heap.size ≤ q) c1 ads T1 T2 ws H) (hS : va_S (fun q => s.heap.size ≤ q) s.heap H locs) (hAs : e2_relS ads [] as As) (hbq : ads[83]? = some bq) (hn : As.length = n) (hls : ls.size = 4) (hsum : rest.length ≤ 4) (hr1 : cells ≤ 600000) (hr2 : slots ≤ 7302250)
    (kk : ∀ (ws' : va_W) (H1 : Heap) (locs1 : List Loc) (z : Int) (T3 : Nat), P z T3 → lw_St hC hR D (fun q => s.heap.size ≤ q) c1 ads T1 T3 ws' H1 → va_S (fun q => s.heap.size ≤ q) s.heap H1 locs1 → W p l e room_1 s m #[Value.ref b] below meth c H1 locs1 cells slots Q (F0 m (pc + 3) ls (.int (Int32.ofInt z) :: rest))) : W p l e room_1 s m #[Value.ref b] below meth c H locs cells slots Q (F0 m pc ls (As.reverse ++ .ref bq :: rest)) := by
  obtain ⟨hB0, ⟨tc, htc, hCL⟩, b1, m1, hb, hm, hRL⟩ := hst
  obtain ⟨f2, hBB, f3⟩ := hf
  obtain ⟨hW1, hT2, okN, id1⟩ := f3 b1 m1 hb hm
  have hwo := lw_ex hb hm hB0 hW1.2.1 hW1.2.2.1 hW1.2.2.2.2.2.2.2.2.2.1 hW1.2.2.2.1 hRL
  have h10 : (ev_hg (lw_x ws) 83).1 = 10 := by rw [lw_x_83]
  have hsy := hc b1 m1 hb hm hRL
  refine lw_call (cA := lw_cA c1 ws b1 m1) (F := fun v _ h' => sy_K (∃ z T3, v = mw_i z ∧ P z T3 ∧ lw_Q ads T3 hR ws v h')) hcx hok hdg hDd (fun M hM => hsy Dd (Nat.le_refl _) _ (fun v E h hp => sy_K_i hp) M hM) (by omega) h10 (by omega) lw_sat0 hwo hS hAs hbq hn hls hsum hr1 hr2 fun r' ws' E' h' v H1 locs1 w hp hF hs' hwo' hS1 hret => ?_
  obtain ⟨z, T3, rfl, hP, -, hfr, b2, m2, F2, N2, R2, hb2, hm2, hE, hlok⟩ := sy_K_e hF
  obtain rfl := lw_retI hret
  obtain ⟨hW2, -⟩ := f3 b2 m2 hb2 hm2
  exact kk ws' H1 locs1 z T3 hP ⟨lw_base hwo', ⟨tc, htc, hCL.same fun k z1 e => lw_same hwo' (by omega) (by rw [hfr k z1, lw_x_fr ws (by omega) (by omega)])⟩, b2, m2, hb2, hm2, lw_RL.of hb2 hm2 rfl hwo' hE hW2.1 hW2.2.1 hW2.2.2.1 hW2.2.2.2.1 hW2.2.2.2.2.1 hlok⟩ hS1
end LawSt
