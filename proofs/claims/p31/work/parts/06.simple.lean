section EvSimple
variable {p : Program} {l : Launch} {e : Env} {R : Room} {s : State} {m : MethodId} {args : Array Value} {below : List Frame} {meth : Method} {c : Code} {Q : State → Prop}
variable {cc : ByteArray} {own : String} {nL : Nat} {D : va_G} {cA : ev_cA} {A : Nat → Prop} {ads0 : List Nat} {n0 s0 d : Nat} {res : ev_V × Nat × Nat × ev_H} {call : ev_Call} {pc len : Nat}
theorem es_push {v : ev_V} {w : Value} (hw : ∀ ads, ev_rel ads v w) (hrow : ∀ (H : Heap) (locs : List Loc) (k n : Nat) (ls : Array Slot) (rest : List Value), W p l e R s m args below meth c H locs k n Q (F0 m (pc + len) ls (w :: rest)) → W p l e R s m args below meth c H locs k n Q (F0 m pc ls rest)) : ev_sd p l e R s m args below meth c Q nL D cA A ads0 n0 s0 res call (eo_push v) pc len := by
  intro Kn Kj al st ns nc h hh hn hj
  obtain ⟨g1, g2, g3⟩ := hn _ _ _ _ _ hh
  exact ⟨g1, g2, fun ads ws H locs ls vs hp h0 h1 hwo hS hfr hst => hrow _ _ _ _ _ _ (g3 ads ws H locs ls (w :: vs) hp h0 h1 hwo hS hfr ⟨hw ads, hst⟩)⟩
theorem es_iload {i : Nat} (hrow : ∀ (H : Heap) (locs : List Loc) (k n : Nat) (ls : Array Slot) (rest : List Value) (x : Int32), ls[i]? = some (.val (.int x)) → W p l e R s m args below meth c H locs k n Q (F0 m (pc + len) ls (.int x :: rest)) → W p l e R s m args below meth c H locs k n Q (F0 m pc ls rest)) : ev_sd p l e R s m args below meth c Q nL D cA A ads0 n0 s0 res call (eo_iload i) pc len := by
  intro Kn Kj al st ns nc h hh hn hj
  have hq := ev_get_some hh
  clear hh
  obtain ⟨⟨t, a, b⟩, e1, hh⟩ := hq
  have hq := ev_if_some hh
  clear hh
  obtain ⟨e2, hh⟩ := hq
  have e2 : t ≤ 1 := by simpa using e2
  obtain ⟨g1, g2, g3⟩ := hn _ _ _ _ _ hh
  refine ⟨g1, g2, fun ads ws H locs ls vs hp h0 h1 hwo hS hfr hst => ?_⟩
  obtain ⟨w, q1, q2⟩ := hfr.get e1 (show t ≤ 3 by omega)
  obtain ⟨x, rfl, -⟩ := q2.int e2
  exact hrow _ _ _ _ _ _ x q1 (g3 ads ws H locs ls _ hp h0 h1 hwo hS hfr ⟨q2, hst⟩)
theorem es_aload {i : Nat} (hrow : ∀ (H : Heap) (locs : List Loc) (k n : Nat) (ls : Array Slot) (rest : List Value) (x : Nat), ls[i]? = some (.val (.ref x)) → W p l e R s m args below meth c H locs k n Q (F0 m (pc + len) ls (.ref x :: rest)) → W p l e R s m args below meth c H locs k n Q (F0 m pc ls rest)) : ev_sd p l e R s m args below meth c Q nL D cA A ads0 n0 s0 res call (eo_aload i) pc len := by
  intro Kn Kj al st ns nc h hh hn hj
  have hq := ev_get_some hh
  clear hh
  obtain ⟨⟨t, a, b⟩, e1, hh⟩ := hq
  have hq := ev_if_some hh
  clear hh
  obtain ⟨e2, hh⟩ := hq
  have e2 : t = 2 := Nat.eq_of_beq_eq_true e2
  obtain ⟨g1, g2, g3⟩ := hn _ _ _ _ _ hh
  refine ⟨g1, g2, fun ads ws H locs ls vs hp h0 h1 hwo hS hfr hst => ?_⟩
  obtain ⟨w, q1, q2⟩ := hfr.get e1 (show t ≤ 3 by omega)
  obtain ⟨x, -, rfl⟩ := q2.ref (by omega)
  exact hrow _ _ _ _ _ _ x q1 (g3 ads ws H locs ls _ hp h0 h1 hwo hS hfr ⟨q2, hst⟩)
theorem es_istore {i : Nat} (hrow : ∀ (H : Heap) (locs : List Loc) (k n : Nat) (ls : Array Slot) (lv : List (Nat × Value)) (rest : List Value) (x : Int32), lv_has ls nL lv → i < nL → (∀ ls' : Array Slot, lv_has ls' nL ((i, .int x) :: lv.filter (fun q => !(q.1 == i) && !(q.1 + 1 == i && q.2.category == 2))) → W p l e R s m args below meth c H locs k n Q (F0 m (pc + len) ls' rest)) → W p l e R s m args below meth c H locs k n Q (F0 m pc ls (.int x :: rest))) : ev_sd p l e R s m args below meth c Q nL D cA A ads0 n0 s0 res call (eo_istore i) pc len := by
  intro Kn Kj al st ns nc h hh hn hj
  have hq := ev_1_some hh
  clear hh
  obtain ⟨⟨t, a, b⟩, r, rfl, hh⟩ := hq
  have hq := ev_if_some hh
  clear hh
  obtain ⟨e2, hh⟩ := hq
  have hq := ev_setK_some hh
  clear hh
  obtain ⟨e3, hh⟩ := hq
  have e2 : t ≤ 1 := by simpa using e2
  obtain ⟨g1, g2, g3⟩ := hn _ _ _ _ _ hh
  refine ⟨g1, g2, fun ads ws H locs ls vs hp h0 h1 hwo hS hfr hst => ?_⟩
  have hq := hst.cons
  clear hst
  obtain ⟨w, vs, rfl, q2, hst⟩ := hq
  obtain ⟨x, rfl, -⟩ := q2.int e2
  obtain ⟨f1, lv, f2, f3⟩ := hfr
  exact hrow _ _ _ _ _ lv _ x f2 (by omega) fun ls' hls' => g3 ads ws H locs ls' _ hp h0 h1 hwo hS (ev_fr.set f1 f3 q2 hls') hst
theorem es_astore {i : Nat} (hrow : ∀ (H : Heap) (locs : List Loc) (k n : Nat) (ls : Array Slot) (lv : List (Nat × Value)) (rest : List Value) (x : Nat), lv_has ls nL lv → i < nL → (∀ ls' : Array Slot, lv_has ls' nL ((i, .ref x) :: lv.filter (fun q => !(q.1 == i) && !(q.1 + 1 == i && q.2.category == 2))) → W p l e R s m args below meth c H locs k n Q (F0 m (pc + len) ls' rest)) → W p l e R s m args below meth c H locs k n Q (F0 m pc ls (.ref x :: rest))) : ev_sd p l e R s m args below meth c Q nL D cA A ads0 n0 s0 res call (eo_astore i) pc len := by
  intro Kn Kj al st ns nc h hh hn hj
  have hq := ev_1_some hh
  clear hh
  obtain ⟨⟨t, a, b⟩, r, rfl, hh⟩ := hq
  have hq := ev_if_some hh
  clear hh
  obtain ⟨e2, hh⟩ := hq
  have hq := ev_setK_some hh
  clear hh
  obtain ⟨e3, hh⟩ := hq
  have e2 : t = 2 := Nat.eq_of_beq_eq_true e2
  obtain ⟨g1, g2, g3⟩ := hn _ _ _ _ _ hh
  refine ⟨g1, g2, fun ads ws H locs ls vs hp h0 h1 hwo hS hfr hst => ?_⟩
  have hq := hst.cons
  clear hst
  obtain ⟨w, vs, rfl, q2, hst⟩ := hq
  obtain ⟨x, -, rfl⟩ := q2.ref (by omega)
  obtain ⟨f1, lv, f2, f3⟩ := hfr
  exact hrow _ _ _ _ _ lv _ x f2 (by omega) fun ls' hls' => g3 ads ws H locs ls' _ hp h0 h1 hwo hS (ev_fr.set f1 f3 q2 hls') hst
theorem es_iinc {i n : Nat} (hrow : ∀ (H : Heap) (locs : List Loc) (k n' : Nat) (ls : Array Slot) (lv : List (Nat × Value)) (rest : List Value) (x : Int32), lv_has ls nL lv → (i, Value.int x) ∈ lv → i < nL → (∀ ls' : Array Slot, lv_has ls' nL ((i, .int (x + ev_i n)) :: lv.filter (fun q => !(q.1 == i) && !(q.1 + 1 == i && q.2.category == 2))) → W p l e R s m args below meth c H locs k n' Q (F0 m (pc + len) ls' rest)) → W p l e R s m args below meth c H locs k n' Q (F0 m pc ls rest)) : ev_sd p l e R s m args below meth c Q nL D cA A ads0 n0 s0 res call (eo_iinc i n) pc len := by
  intro Kn Kj al st ns nc h hh hn hj
  have hq := ev_get_some hh
  clear hh
  obtain ⟨⟨t, a, b⟩, e1, hh⟩ := hq
  have hq := ev_bin_some hh
  clear hh
  obtain ⟨e2, -, cv, hh, hc⟩ := hq
  have hq := ev_setK_some hh
  clear hh
  obtain ⟨e3, hh⟩ := hq
  have e2 : t ≤ 1 := e2
  obtain ⟨g1, g2, g3⟩ := hn _ _ _ _ _ hh
  refine ⟨g1, g2, fun ads ws H locs ls vs hp h0 h1 hwo hS hfr hst => ?_⟩
  obtain ⟨f1, lv, f2, f3⟩ := hfr
  obtain ⟨w, q1, q2⟩ := f3 i _ e1 (show t ≤ 3 by omega)
  obtain ⟨x, rfl, -⟩ := q2.int e2
  exact hrow _ _ _ _ _ lv _ x f2 q1 (by omega) fun ls' hls' => g3 ads ws H locs ls' _ hp h0 h1 hwo hS (ev_fr.set f1 f3 (hc ads x (ev_i n) q2 (ev_rel.of ads n 0)) hls') hst
theorem es_bin {o : Int32 → Int32 → Int32} (hrow : ∀ (H : Heap) (locs : List Loc) (k n : Nat) (ls : Array Slot) (rest : List Value) (x y : Int32), W p l e R s m args below meth c H locs k n Q (F0 m (pc + len) ls (.int (o x y) :: rest)) → W p l e R s m args below meth c H locs k n Q (F0 m pc ls (.int y :: .int x :: rest))) : ev_sd p l e R s m args below meth c Q nL D cA A ads0 n0 s0 res call (eo_bin o) pc len := by
  intro Kn Kj al st ns nc h hh hn hj
  have hq := ev_2_some hh
  clear hh
  obtain ⟨vb, va, r, rfl, hh⟩ := hq
  have hq := ev_bin_some hh
  clear hh
  obtain ⟨e1, e2, cv, hh, hc⟩ := hq
  obtain ⟨g1, g2, g3⟩ := hn _ _ _ _ _ hh
  refine ⟨g1, g2, fun ads ws H locs ls vs hp h0 h1 hwo hS hfr hst => ?_⟩
  have hq := hst.cons
  clear hst
  obtain ⟨w, vs, rfl, q2, hst⟩ := hq
  have hq := hst.cons
  clear hst
  obtain ⟨w', vs, rfl, q3, hst⟩ := hq
  obtain ⟨y, rfl, -⟩ := ev_rel.int (t := vb.1) (a := vb.2.1) (b := vb.2.2) q2 e2
  obtain ⟨x, rfl, -⟩ := ev_rel.int (t := va.1) (a := va.2.1) (b := va.2.2) q3 e1
  exact hrow _ _ _ _ _ _ x y (g3 ads ws H locs ls _ hp h0 h1 hwo hS hfr ⟨hc ads x y q3 q2, hst⟩)
theorem es_div {o : Int32 → Int32 → Int32} (hrow : ∀ (H : Heap) (locs : List Loc) (k n : Nat) (ls : Array Slot) (rest : List Value) (x y : Int32), ¬ y = 0 → W p l e R s m args below meth c H locs k n Q (F0 m (pc + len) ls (.int (o x y) :: rest)) → W p l e R s m args below meth c H locs k n Q (F0 m pc ls (.int y :: .int x :: rest))) : ev_sd p l e R s m args below meth c Q nL D cA A ads0 n0 s0 res call (eo_div o) pc len := by
  intro Kn Kj al st ns nc h hh hn hj
  have hq := ev_2_some hh
  clear hh
  obtain ⟨vb, va, r, rfl, hh⟩ := hq
  have hq := ev_nat_some hh
  clear hh
  obtain ⟨b0, b1, hh⟩ := hq
  have hq := ev_if_some hh
  clear hh
  obtain ⟨b2, hh⟩ := hq
  have b2 : 0 < vb.2.1 := by simpa using b2
  have hq := ev_bin_some hh
  clear hh
  obtain ⟨e1, e2, cv, hh, hc⟩ := hq
  obtain ⟨g1, g2, g3⟩ := hn _ _ _ _ _ hh
  refine ⟨g1, g2, fun ads ws H locs ls vs hp h0 h1 hwo hS hfr hst => ?_⟩
  have hq := hst.cons
  clear hst
  obtain ⟨w, vs, rfl, q2, hst⟩ := hq
  have hq := hst.cons
  clear hst
  obtain ⟨w', vs, rfl, q3, hst⟩ := hq
  obtain ⟨y, rfl, ey, -⟩ := ev_rel.int (t := vb.1) (a := vb.2.1) (b := vb.2.2) q2 e2
  obtain ⟨x, rfl, -⟩ := ev_rel.int (t := va.1) (a := va.2.1) (b := va.2.2) q3 e1
  exact hrow _ _ _ _ _ _ x y (by rw [ey b0]; exact nI_ne0 b2 (by omega)) (g3 ads ws H locs ls _ hp h0 h1 hwo hS hfr ⟨hc ads x y q3 q2, hst⟩)
theorem es_un {o : Int32 → Int32} (hrow : ∀ (H : Heap) (locs : List Loc) (k n : Nat) (ls : Array Slot) (rest : List Value) (x : Int32), W p l e R s m args below meth c H locs k n Q (F0 m (pc + len) ls (.int (o x) :: rest)) → W p l e R s m args below meth c H locs k n Q (F0 m pc ls (.int x :: rest))) : ev_sd p l e R s m args below meth c Q nL D cA A ads0 n0 s0 res call (eo_un o) pc len := by
  intro Kn Kj al st ns nc h hh hn hj
  have hq := ev_1_some hh
  clear hh
  obtain ⟨va, r, rfl, hh⟩ := hq
  have hq := ev_un_some hh
  clear hh
  obtain ⟨e1, cv, -, hh, hc⟩ := hq
  obtain ⟨g1, g2, g3⟩ := hn _ _ _ _ _ hh
  refine ⟨g1, g2, fun ads ws H locs ls vs hp h0 h1 hwo hS hfr hst => ?_⟩
  have hq := hst.cons
  clear hst
  obtain ⟨w', vs, rfl, q3, hst⟩ := hq
  obtain ⟨x, rfl, -⟩ := ev_rel.int (t := va.1) (a := va.2.1) (b := va.2.2) q3 e1
  exact hrow _ _ _ _ _ _ x (g3 ads ws H locs ls _ hp h0 h1 hwo hS hfr ⟨hc ads x q3, hst⟩)
theorem es_dup (hrow : ∀ (H : Heap) (locs : List Loc) (k n : Nat) (ls : Array Slot) (rest : List Value) (w : Value), w.category = 1 → W p l e R s m args below meth c H locs k n Q (F0 m (pc + len) ls (w :: w :: rest)) → W p l e R s m args below meth c H locs k n Q (F0 m pc ls (w :: rest))) : ev_sd p l e R s m args below meth c Q nL D cA A ads0 n0 s0 res call eo_dup pc len := by
  intro Kn Kj al st ns nc h hh hn hj
  have hq := ev_1_some hh
  clear hh
  obtain ⟨va, r, rfl, hh⟩ := hq
  have hq := ev_if_some hh
  clear hh
  obtain ⟨e1, hh⟩ := hq
  have e1 : va.1 ≤ 3 := by simpa using e1
  obtain ⟨g1, g2, g3⟩ := hn _ _ _ _ _ hh
  refine ⟨g1, g2, fun ads ws H locs ls vs hp h0 h1 hwo hS hfr hst => ?_⟩
  have hq := hst.cons
  clear hst
  obtain ⟨w', vs, rfl, q3, hst⟩ := hq
  exact hrow _ _ _ _ _ _ _ (q3.cat e1) (g3 ads ws H locs ls _ hp h0 h1 hwo hS hfr ⟨q3, q3, hst⟩)
theorem es_dup2 (hrow : ∀ (H : Heap) (locs : List Loc) (k n : Nat) (ls : Array Slot) (rest : List Value) (w w' : Value), w.category = 1 → w'.category = 1 → W p l e R s m args below meth c H locs k n Q (F0 m (pc + len) ls (w :: w' :: w :: w' :: rest)) → W p l e R s m args below meth c H locs k n Q (F0 m pc ls (w :: w' :: rest))) : ev_sd p l e R s m args below meth c Q nL D cA A ads0 n0 s0 res call eo_dup2 pc len := by
  intro Kn Kj al st ns nc h hh hn hj
  have hq := ev_2_some hh
  clear hh
  obtain ⟨va, vb, r, rfl, hh⟩ := hq
  have hq := ev_if_some hh
  clear hh
  obtain ⟨e1, hh⟩ := hq
  have hq := ev_if_some hh
  clear hh
  obtain ⟨e2, hh⟩ := hq
  have e1 : va.1 ≤ 3 := by simpa using e1
  have e2 : vb.1 ≤ 3 := by simpa using e2
  obtain ⟨g1, g2, g3⟩ := hn _ _ _ _ _ hh
  refine ⟨g1, g2, fun ads ws H locs ls vs hp h0 h1 hwo hS hfr hst => ?_⟩
  have hq := hst.cons
  clear hst
  obtain ⟨w', vs, rfl, q3, hst⟩ := hq
  have hq := hst.cons
  clear hst
  obtain ⟨w, vs, rfl, q4, hst⟩ := hq
  exact hrow _ _ _ _ _ _ _ _ (q3.cat e1) (q4.cat e2) (g3 ads ws H locs ls _ hp h0 h1 hwo hS hfr ⟨q3, q4, q3, q4, hst⟩)
theorem es_pop (hrow : ∀ (H : Heap) (locs : List Loc) (k n : Nat) (ls : Array Slot) (rest : List Value) (w : Value), w.category = 1 → W p l e R s m args below meth c H locs k n Q (F0 m (pc + len) ls rest) → W p l e R s m args below meth c H locs k n Q (F0 m pc ls (w :: rest))) : ev_sd p l e R s m args below meth c Q nL D cA A ads0 n0 s0 res call eo_pop pc len := by
  intro Kn Kj al st ns nc h hh hn hj
  have hq := ev_1_some hh
  clear hh
  obtain ⟨va, r, rfl, hh⟩ := hq
  have hq := ev_if_some hh
  clear hh
  obtain ⟨e1, hh⟩ := hq
  have e1 : va.1 ≤ 3 := by simpa using e1
  obtain ⟨g1, g2, g3⟩ := hn _ _ _ _ _ hh
  refine ⟨g1, g2, fun ads ws H locs ls vs hp h0 h1 hwo hS hfr hst => ?_⟩
  have hq := hst.cons
  clear hst
  obtain ⟨w', vs, rfl, q3, hst⟩ := hq
  exact hrow _ _ _ _ _ _ _ (q3.cat e1) (g3 ads ws H locs ls _ hp h0 h1 hwo hS hfr hst)
theorem es_ifc {cd : ClassFile.Cond} {t : Nat} (hrow : ∀ (H : Heap) (locs : List Loc) (k n : Nat) (ls : Array Slot) (rest : List Value) (x : Int32), (ev_holds cd x 0 → W p l e R s m args below meth c H locs k n Q (F0 m t ls rest)) → (¬ ev_holds cd x 0 → W p l e R s m args below meth c H locs k n Q (F0 m (pc + len) ls rest)) → W p l e R s m args below meth c H locs k n Q (F0 m pc ls (.int x :: rest))) : ev_sd p l e R s m args below meth c Q nL D cA A ads0 n0 s0 res call (eo_ifc cd t) pc len := by
  intro Kn Kj al st ns nc h hh hn hj
  have hq := ev_1_some hh
  clear hh
  obtain ⟨va, r, rfl, hh⟩ := hq
  have hq := ev_rng_some hh
  clear hh
  obtain ⟨e1, x1, y1, hh, hr⟩ := hq
  have hz : ∀ x : Int32, x1 ≤ ev_key x ∧ ev_key x ≤ y1 → (ev_holds cd x 0 ∧ Kj t al r ns nc h = some res) ∨ (¬ ev_holds cd x 0 ∧ Kn al r ns nc h = some res) := fun x hx => ev_cmp_some hh hx ⟨Nat.le_of_eq ev_key_0.symm, Nat.le_of_eq ev_key_0⟩
  have mono : nc ≤ res.2.2.1 ∧ ns ≤ res.2.1 := by
    have hq : Kj t al r ns nc h = some res ∨ Kn al r ns nc h = some res := by
      cases cd <;> simp only [ev_cmp] at hh
      · rcases ev_eq_some hh with ⟨-, -, -, hh⟩ | ⟨-, hh⟩ <;> simp [hh]
      · rcases ev_eq_some hh with ⟨-, -, -, hh⟩ | ⟨-, hh⟩ <;> simp [hh]
      all_goals rcases ev_lt_some hh with ⟨-, hh⟩ | ⟨-, hh⟩ <;> simp [hh]
    rcases hq with hq | hq
    · exact ⟨(hj _ _ _ _ _ _ hq).1, (hj _ _ _ _ _ _ hq).2.1⟩
    · exact ⟨(hn _ _ _ _ _ hq).1, (hn _ _ _ _ _ hq).2.1⟩
  refine ⟨mono.1, mono.2, fun ads ws H locs ls vs hp h0 h1 hwo hS hfr hst => ?_⟩
  have hq := hst.cons
  clear hst
  obtain ⟨w', vs, rfl, q3, hst⟩ := hq
  obtain ⟨x, rfl, -⟩ := ev_rel.int (t := va.1) (a := va.2.1) (b := va.2.2) q3 e1
  rcases hz x (hr ads x q3) with ⟨z1, z2⟩ | ⟨z1, z2⟩
  · exact hrow _ _ _ _ _ _ x (fun _ => (hj _ _ _ _ _ _ z2).2.2 ads ws H locs ls _ hp h0 h1 hwo hS hfr hst) (fun z => absurd z1 z)
  · exact hrow _ _ _ _ _ _ x (fun z => absurd z z1) (fun _ => (hn _ _ _ _ _ z2).2.2 ads ws H locs ls _ hp h0 h1 hwo hS hfr hst)
theorem es_icmp {cd : ClassFile.Cond} {t : Nat} (hrow : ∀ (H : Heap) (locs : List Loc) (k n : Nat) (ls : Array Slot) (rest : List Value) (x y : Int32), (ev_holds cd x y → W p l e R s m args below meth c H locs k n Q (F0 m t ls rest)) → (¬ ev_holds cd x y → W p l e R s m args below meth c H locs k n Q (F0 m (pc + len) ls rest)) → W p l e R s m args below meth c H locs k n Q (F0 m pc ls (.int y :: .int x :: rest))) : ev_sd p l e R s m args below meth c Q nL D cA A ads0 n0 s0 res call (eo_icmp cd t) pc len := by
  intro Kn Kj al st ns nc h hh hn hj
  have hq := ev_2_some hh
  clear hh
  obtain ⟨vb, va, r, rfl, hh⟩ := hq
  have hq := ev_rng_some hh
  clear hh
  obtain ⟨e1, x1, y1, hh, hr⟩ := hq
  have hq := ev_rng_some hh
  clear hh
  obtain ⟨e2, x2, y2, hh, hr2⟩ := hq
  have hz : ∀ x y : Int32, x1 ≤ ev_key x ∧ ev_key x ≤ y1 → x2 ≤ ev_key y ∧ ev_key y ≤ y2 → (ev_holds cd x y ∧ Kj t al r ns nc h = some res) ∨ (¬ ev_holds cd x y ∧ Kn al r ns nc h = some res) := fun x y hx hy => ev_cmp_some hh hx hy
  have mono : nc ≤ res.2.2.1 ∧ ns ≤ res.2.1 := by
    have hq : Kj t al r ns nc h = some res ∨ Kn al r ns nc h = some res := by
      cases cd <;> simp only [ev_cmp] at hh
      · rcases ev_eq_some hh with ⟨-, -, -, hh⟩ | ⟨-, hh⟩ <;> simp [hh]
      · rcases ev_eq_some hh with ⟨-, -, -, hh⟩ | ⟨-, hh⟩ <;> simp [hh]
      all_goals rcases ev_lt_some hh with ⟨-, hh⟩ | ⟨-, hh⟩ <;> simp [hh]
    rcases hq with hq | hq
    · exact ⟨(hj _ _ _ _ _ _ hq).1, (hj _ _ _ _ _ _ hq).2.1⟩
    · exact ⟨(hn _ _ _ _ _ hq).1, (hn _ _ _ _ _ hq).2.1⟩
  refine ⟨mono.1, mono.2, fun ads ws H locs ls vs hp h0 h1 hwo hS hfr hst => ?_⟩
  have hq := hst.cons
  clear hst
  obtain ⟨w, vs, rfl, q2, hst⟩ := hq
  have hq := hst.cons
  clear hst
  obtain ⟨w', vs, rfl, q3, hst⟩ := hq
  obtain ⟨y, rfl, -⟩ := ev_rel.int (t := vb.1) (a := vb.2.1) (b := vb.2.2) q2 e2
  obtain ⟨x, rfl, -⟩ := ev_rel.int (t := va.1) (a := va.2.1) (b := va.2.2) q3 e1
  rcases hz x y (hr ads x q3) (hr2 ads y q2) with ⟨z1, z2⟩ | ⟨z1, z2⟩
  · exact hrow _ _ _ _ _ _ x y (fun _ => (hj _ _ _ _ _ _ z2).2.2 ads ws H locs ls _ hp h0 h1 hwo hS hfr hst) (fun z => absurd z1 z)
  · exact hrow _ _ _ _ _ _ x y (fun z => absurd z z1) (fun _ => (hn _ _ _ _ _ z2).2.2 ads ws H locs ls _ hp h0 h1 hwo hS hfr hst)
theorem es_goto {t : Nat} (hrow : ∀ (H : Heap) (locs : List Loc) (k n : Nat) (ls : Array Slot) (rest : List Value), W p l e R s m args below meth c H locs k n Q (F0 m t ls rest) → W p l e R s m args below meth c H locs k n Q (F0 m pc ls rest)) : ev_sd p l e R s m args below meth c Q nL D cA A ads0 n0 s0 res call (eo_goto t) pc len := by
  intro Kn Kj al st ns nc h hh hn hj
  obtain ⟨g1, g2, g3⟩ := hj _ _ _ _ _ _ hh
  exact ⟨g1, g2, fun ads ws H locs ls vs hp h0 h1 hwo hS hfr hst => hrow _ _ _ _ _ _ (g3 ads ws H locs ls vs hp h0 h1 hwo hS hfr hst)⟩
theorem es_tab {lo dt : Nat} {ts : List Nat} (hrow : ∀ (H : Heap) (locs : List Loc) (k n : Nat) (ls : Array Slot) (rest : List Value) (x : Int32) (t : Nat), ((ev_key x < lo ∨ lo + ts.length ≤ ev_key x) ∧ t = dt ∨ lo ≤ ev_key x ∧ ts[ev_key x - lo]? = some t) → W p l e R s m args below meth c H locs k n Q (F0 m t ls rest) → W p l e R s m args below meth c H locs k n Q (F0 m pc ls (.int x :: rest))) : ev_sd p l e R s m args below meth c Q nL D cA A ads0 n0 s0 res call (eo_tab lo ts dt) pc len := by
  intro Kn Kj al st ns nc h hh hn hj
  have hq := ev_1_some hh
  clear hh
  obtain ⟨va, r, rfl, hh⟩ := hq
  have hq := ev_rng_some hh
  clear hh
  obtain ⟨e1, x1, y1, hh, hr⟩ := hq
  have key : ∃ t, Kj t al r ns nc h = some res ∧ ∀ x : Int32, x1 ≤ ev_key x ∧ ev_key x ≤ y1 → ((ev_key x < lo ∨ lo + ts.length ≤ ev_key x) ∧ t = dt ∨ lo ≤ ev_key x ∧ ts[ev_key x - lo]? = some t) := by
    by_cases hz : Nat.blt y1 lo = true
    · rw [hz] at hh
      have hz : y1 < lo := by simpa using hz
      exact ⟨dt, hh, fun x hx => Or.inl ⟨Or.inl (by omega), rfl⟩⟩
    · rw [Bool.eq_false_iff.mpr hz] at hh
      simp only [] at hh
      have hz : ¬ y1 < lo := by simpa using hz
      by_cases hy : Nat.ble (Nat.add lo ts.length) x1 = true
      · rw [hy] at hh
        have hy : lo + ts.length ≤ x1 := Nat.le_of_ble_eq_true hy
        exact ⟨dt, hh, fun x hx => Or.inl ⟨Or.inr (by omega), rfl⟩⟩
      · rw [Bool.eq_false_iff.mpr hy] at hh
        simp only [] at hh
        have hq := ev_if_some hh
        clear hh
        obtain ⟨b1, hh⟩ := hq
        have b1 : x1 = y1 := Nat.eq_of_beq_eq_true b1
        have hq := ev_get_some hh
        clear hh
        obtain ⟨t, b2, hh⟩ := hq
        refine ⟨t, hh, fun x hx => Or.inr ⟨by omega, ?_⟩⟩
        rw [show ev_key x = x1 by omega]
        exact b2
  obtain ⟨t, hh, hk⟩ := key
  obtain ⟨g1, g2, g3⟩ := hj _ _ _ _ _ _ hh
  refine ⟨g1, g2, fun ads ws H locs ls vs hp h0 h1 hwo hS hfr hst => ?_⟩
  have hq := hst.cons
  clear hst
  obtain ⟨w', vs, rfl, q3, hst⟩ := hq
  obtain ⟨x, rfl, -⟩ := ev_rel.int (t := va.1) (a := va.2.1) (b := va.2.2) q3 e1
  exact hrow _ _ _ _ _ _ x t (hk x (hr ads x q3)) (g3 ads ws H locs ls _ hp h0 h1 hwo hS hfr hst)
end EvSimple
