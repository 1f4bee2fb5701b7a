/-! LATER and the exact calls from state to state -/
def lw_PL (T : Nat) (y z : Int) (T3 : Nat) : Prop := (z = -1 ∧ ¬ lw_g T y ∧ T3 = T) ∨ (z = T + y ∧ lw_g T y ∧ T3 = T + y.toNat)
theorem lw_PL.un {T T3 T4 : Nat} {y z z2 : Int} (h : lw_PL T y z T3) (h2 : lw_PL T y z2 T4) : z = z2 ∧ T3 = T4 := by
  rcases h with ⟨a1, a2, a3⟩ | ⟨a1, a2, a3⟩ <;> rcases h2 with ⟨b1, b2, b3⟩ | ⟨b1, b2, b3⟩
  · exact ⟨by rw [a1, b1], by rw [a3, b3]⟩
  · exact absurd b2 a2
  · exact absurd a2 b2
  · exact ⟨by rw [a1, b1], by rw [a3, b3]⟩
theorem lw_PL.le {T T3 : Nat} {y z : Int} (h : lw_PL T y z T3) (hT : T ≤ 100000) : T3 ≤ 100000 := by
  rcases h with ⟨a1, a2, a3⟩ | ⟨a1, a2, a3⟩
  · omega
  · have b1 := a2.1
    have b2 := a2.2.2
    omega
section LawSt
variable {p : Program} {l : Launch} {e : Env} {s : State} {m : MethodId} {below : List Frame} {meth : Method} {c : Code} {b L : Nat} {xs : Nat → Int32} {D : va_G} {c1 : Nat → ClassId} {Q : State → Prop} {hC hN : Nat → ev_H} {EC ER : e2_E} {hB : ev_H} {hR hM : Nat → Nat → ev_H}
theorem lw_callL (hen : en_ok) (hcx : lw_cx p s m c b L xs D (lw_no c1)) (hf : lw_F1 hC hN EC) {pc idx : Nat} {ws0 : List Nat} (hok : ev_ok1 e2_MT R_law false none pc (.invokevirtual idx) 3 152 1 0 9 ws0 = true) (hdg : decode code pc = .ok (.invokevirtual idx, 3)) {ads : List Nat} {ws : va_W} {H : Heap} {locs : List Loc} {ls : Array Slot} {rest : List Value} {bq cells slots T1 T2 : Nat} {x : Int32} (hT : T1 ≤ 100000) (hst : lw_St hC hR D (fun q => s.heap.size ≤ q) c1 ads T1 T2 ws H) (hS : va_S (fun q => s.heap.size ≤ q) s.heap H locs) (hbq : ads[0]? = some bq) (hls : ls.size = 4) (hsum : rest.length ≤ 4) (hr1 : cells ≤ 600000) (hr2 : slots ≤ 7302250)
    (kk : ∀ (ws' : va_W) (H1 : Heap) (locs1 : List Loc) (z : Int) (T3 : Nat), lw_PL T1 x.toInt z T3 → lw_St hC hR D (fun q => s.heap.size ≤ q) c1 ads T3 T2 ws' H1 → va_S (fun q => s.heap.size ≤ q) s.heap H1 locs1 → W p l e room_1 s m #[Value.ref b] below meth c H1 locs1 cells slots Q (F0 m (pc + 3) ls (.int (Int32.ofInt z) :: rest))) : W p l e room_1 s m #[Value.ref b] below meth c H locs cells slots Q (F0 m pc ls (.int x :: .ref bq :: rest)) := by
  obtain ⟨hB0, ⟨tc, htc, hCL⟩, b1, m1, hb, hm, hRL⟩ := hst
  obtain ⟨f2, f3⟩ := hf
  obtain ⟨okC, okL, id1⟩ := f3 tc htc
  obtain ⟨⟨l0, q0, q05⟩, ⟨l77, q77, q3⟩, -, q60, qf, q50, q68⟩ := id okL
  have hg : ∀ {v : ev_V} {k : Nat}, k < 133 → k ≠ 77 → ev_hg (e2_gset (hC tc) 77 3 v) k = ev_hg (hC tc) k := fun hk h7 => by rw [e2_gset_at (by omega) hk, if_neg h7]
  have hg7 : ∀ {v : ev_V}, ev_hg (e2_gset (hC tc) 77 3 v) 77 = (1, l77.set 3 v) := fun {v} => by rw [e2_gset_at (by omega) (by omega), if_pos rfl, q77]
  have hh := hCL.ex okL
  have hwo : e2_wo D (lw_cA c1 ws b1 m1) (fun q => s.heap.size ≤ q) ads [] ws (e2_gset (hC tc) 77 3 (mw_i (T1 : Int))) H := lw_mk (lo := 0) (hi := 83) hB0 (lw_okA hb hm hRL.2.1) (by omega) (fun k z1 z2 => by
    obtain ⟨e, y1, y2⟩ := hh k z1 z2
    refine ⟨e, y1, lw_sw y2 ?_ rfl⟩
    by_cases h7 : k = 77
    · subst h7
      rw [hg7]
      show 1 < 60
      omega
    · rw [hg (by omega) h7]
      exact q60 k z2) (fun k z1 z2 => by rw [hg z1 (by omega)]; exact qf k z1 z2) (by rw [hg (by omega) (by omega)]; exact q50) (by rw [hg (by omega) (by omega)]; exact q68)
  have l3 : 3 < l77.length := (List.getElem?_eq_some_iff.mp q3).1
  have h9 : (ev_hg (e2_gset (hC tc) 77 3 (mw_i (T1 : Int))) 0).1 = 9 := by rw [hg (by omega) (by omega), q0]
  have hsy := lw_laterC hen (lc := l) (E := []) (T := (T1 : Int)) (y := x.toInt) (h := e2_gset (hC tc) 77 3 (mw_i (T1 : Int))) (by rw [hg (by omega) (by omega), q0]) q05 hg7 (by rw [List.getElem?_set, if_pos rfl, if_pos l3]) (by omega) (mw_rI x)
  have has : e2_relS ads [] [mw_i x.toInt] [.int x] := ⟨by rw [← mw_I]; show Value.int x = .int (ev_i (ev_u x)); rw [ev_iu], by show (0 : Nat) ≠ 7; decide, trivial⟩
  refine lw_call (cA := lw_cA c1 ws b1 m1) (As := [.int x]) (F := fun v _ h' => sy_K ((v = mw_i (-1) ∧ h' = e2_gset (hC tc) 77 3 (mw_i (T1 : Int)) ∧ ¬ lw_g T1 x.toInt) ∨ (v = mw_i (T1 + x.toInt) ∧ h' = ev_hs (e2_gset (hC tc) 77 3 (mw_i (T1 : Int))) 77 (1, (l77.set 3 (mw_i (T1 : Int))).set 3 (mw_i (T1 + x.toInt))) ∧ lw_g T1 x.toInt))) hcx hok hdg (show 2 ≤ 1000 by omega) (fun M hM => hsy 2 (Nat.le_refl _) _ (fun v E h hp => sy_K_i hp) M hM) (by omega) h9 (by omega) lw_sat0 hwo hS has hbq rfl hls hsum hr1 hr2 fun r' ws' E' h' v H1 locs1 w hp hF hs' hwo' hS1 hret => ?_
  have fin : ∀ (T3 : Nat) (z : Int), v = mw_i z → lw_PL T1 x.toInt z T3 → e2_wo D (lw_cA c1 ws b1 m1) (fun q => s.heap.size ≤ q) ads r' ws' (e2_gset (hC tc) 77 3 (mw_i (T3 : Int))) H1 → W p l e room_1 s m #[Value.ref b] below meth c H1 locs1 cells slots Q (F0 m (pc + 3) ls (w.toList ++ rest)) := fun T3 z hv hPL hw3 => by
    subst hv
    obtain rfl := lw_retI hret
    exact kk ws' H1 locs1 z T3 hPL ⟨lw_base hw3, ⟨tc, htc, lw_CL.of okL (hPL.le hT) rfl hw3⟩, b1, m1, hb, hm, hRL.same fun k z1 z2 e => lw_same hw3 z2 (by rw [hg z2 (by omega)]; exact qf k z2 (by omega))⟩ hS1
  rcases sy_K_e hF with ⟨hv, rfl, hz⟩ | ⟨hv, rfl, hz⟩
  · exact fin T1 (-1) hv (Or.inl ⟨rfl, hz, rfl⟩) hwo'
  · have z1 := hz.1
    have z2 := hz.2.2
    refine fin (T1 + x.toInt.toNat) _ hv (Or.inr ⟨rfl, hz, rfl⟩) (hwo'.congr fun k hk => ?_)
    by_cases h7 : k = 77
    · subst h7
      rw [hg7, rd_e (by omega), List.set_set, show ((T1 + x.toInt.toNat : Nat) : Int) = (T1 : Int) + x.toInt by omega]
    · rw [hg hk h7, ev_hg_hs _ _ (by omega) (by omega), if_neg h7, hg hk h7]
theorem lw_hcL (hen : en_ok) (hf : lw_F2 hB hR hM ER) {ads : List Nat} {ws : va_W} {T : Nat} (hT : T ≤ 100000) (x : Int32) : ∀ b m, b < 2 → m < 4 → lw_RL c1 ads ws b m (hR b m) T → sy_C l 2 280 [(2, 83, 0), mw_i x.toInt] [] (lw_x ws) (fun v _ h' => ∃ z T3, v = mw_i z ∧ lw_PL T x.toInt z T3 ∧ lw_Q ads T3 hR ws v h') := fun b m hb hm hRL => by
  refine sy_C.mono (lw_laterQ hen hb hm hf.2.1 (fun b m hb hm => (hf.2.2 b m hb hm).1) (hf.2.2 b m hb hm).2.1 hRL hT (mw_rI x)) (Nat.le_refl _) fun v E' h' hp => ?_
  rcases hp with ⟨rfl, hz, hq⟩ | ⟨rfl, hz, hq⟩
  · exact ⟨_, _, rfl, Or.inl ⟨rfl, hz, rfl⟩, hq⟩
  · exact ⟨_, _, rfl, Or.inr ⟨rfl, hz, rfl⟩, hq⟩
theorem lw_hcM (hen : en_ok) (hf : lw_F2 hB hR hM ER) {ads : List Nat} {ws : va_W} {T : Nat} : ∀ b m, b < 2 → m < 4 → lw_RL c1 ads ws b m (hR b m) T → sy_C l 8 185 [(2, 83, 0)] [] (lw_x ws) (fun v _ h' => ∃ z T3, v = mw_i z ∧ T3 = T ∧ lw_Q ads T3 hR ws v h') := fun b m hb hm hRL => by
  refine sy_C.mono (lw_meadow hen hb hm hf.2.1 (fun b m hb hm => (hf.2.2 b m hb hm).1) hRL) (Nat.le_refl _) fun v E' h' hp => ?_
  obtain ⟨⟨z, rfl⟩, -, h3, h4⟩ := hp
  exact ⟨z, T, rfl, rfl, ⟨z, rfl⟩, h3, h4⟩
theorem lw_hcO (hen : en_ok) (hf : lw_F2 hB hR hM ER) {ads : List Nat} {ws : va_W} {T : Nat} (x : Int32) : ∀ b m, b < 2 → m < 4 → lw_RL c1 ads ws b m (hR b m) T → sy_C l 6 263 [(2, 83, 0), mw_i x.toInt] [] (lw_x ws) (fun v _ h' => ∃ z T3, v = mw_i z ∧ T3 = T ∧ lw_Q ads T3 hR ws v h') := fun b m hb hm hRL => by
  refine sy_C.mono (lw_orders hen hb hm hf.2.1 (fun b m hb hm => (hf.2.2 b m hb hm).1) hRL (mw_rI x)) (Nat.le_refl _) fun v E' h' hp => ?_
  obtain ⟨⟨z, rfl⟩, h34⟩ := id hp
  exact ⟨z, T, rfl, rfl, hp⟩
theorem lw_hcU (hen : en_ok) (hf : lw_F2 hB hR hM ER) {ads : List Nat} {ws : va_W} {T k : Nat} (hk : k = 247 ∨ k = 248) : ∀ b m, b < 2 → m < 4 → lw_RL c1 ads ws b m (hR b m) T → sy_C l 2 k [(2, 83, 0)] [] (lw_x ws) (fun v _ h' => ∃ z T3, v = mw_i z ∧ T3 = T ∧ lw_Q ads T3 hR ws v h') := fun b m hb hm hRL => by
  refine sy_C.mono (lw_undo hen hb hm hf.2.1 (fun b m hb hm => (hf.2.2 b m hb hm).1) hRL hk) (Nat.le_refl _) fun v E' h' hp => ?_
  obtain ⟨⟨z, rfl⟩, h34⟩ := id hp
  exact ⟨z, T, rfl, rfl, hp⟩
theorem lw_relI {ads : List Nat} (x : Int32) : e2_rel ads [] (mw_i x.toInt) (.int x) := by
  rw [← mw_I]
  show Value.int x = .int (ev_i (ev_u x))
  rw [ev_iu]
theorem lw_relT {ads r : List Nat} (x : Int32) : e2_rel ads r (11, 0, 4294967295) (.int x) := ⟨x, rfl, Nat.zero_le _, ev_key_lt x⟩
end LawSt
