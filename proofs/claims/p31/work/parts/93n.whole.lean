/-! FROM THE ENTRY TO THE LOOP, over any heaps that are as they must be -/
set_option maxHeartbeats 4000000 in
set_option maxRecDepth 100000 in
theorem lw_whole {p : Program} {e : Env} {s : State} {m : MethodId} {below : List Frame} {meth : Method} {c : Code} (l : Launch) {b L : Nat} {xs : Nat → Int32} {hC hN : Nat → ev_H} {EC ER : e2_E} {hB : ev_H} {hR hM : Nat → Nat → ev_H} (hf1 : lw_F1 hC hN EC) (hf2 : lw_F2 hB hR hM ER) (hcc : ∀ k as, (k, as) ∈ lw_lC → lw_cC l hC hN EC k as) (hcr : ∀ k as, (k, as) ∈ lw_lR → lw_cR l hR hM ER k as) (hok : lw_okW (hR 0 0) 0 0) (hs0 : lw_s0 (hC 1) (hR 0 0)) (hL : L ≤ 3072) (C0 : lw_At p s m meth c b L xs) : W p l e room_1 s m #[Value.ref b] below meth c s.heap [] 0 0 (lw_Z below #[Value.ref b] s) (entryFrame m ([Value.ref b] : List Value).toArray 4) := by
  obtain ⟨hx, hb, hr, hml, hown, hts, hX, hbl, hlocks, hgv⟩ := id C0
  obtain ⟨D, c1, hK, hNw⟩ := lw_worlds hts
  have hcx : lw_cx p s m c b L xs D (lw_no c1) := ⟨hx, hb, hml, hown, hts, hX, hbl, hK, hNw, lw_strings hts hgv⟩
  have hS : va_S (fun q : Nat => s.heap.size ≤ q) s.heap s.heap [] := va_S.rf
  have hwo : ev_wo D (lw_eA c1) (fun q : Nat => s.heap.size ≤ q) [] [] 0 ev_hA s.heap := ⟨rfl, rfl, by decide, fun k hk => absurd hk (by omega), fun k q h => by simp at h, ⟨fun i j p q h => by simp at h, fun k q h => by simp at h⟩⟩
  have hl := lv_entry ([.ref b]) (n := 4) (Nat.le_of_ble_eq_true rfl)
  rw [lg_entry_eq]
  generalize (lg_sl ([.ref b]) ++ List.replicate (4 - (lg_sl ([.ref b])).length) Slot.unset).toArray = ls at hl ⊢
  have hl : lv_has ls 4 [(0, .ref b)] := hl
  refine lw_new (ci := 9) hcx rfl lwn_0 dl_0 hwo (Nat.le_of_ble_eq_true rfl) hS (Nat.le_of_ble_eq_true rfl) (Nat.le_of_ble_eq_true rfl) fun bx ws1 H1 hwo1 hS1 => ?_
  refine lv_dup hx hb dl_3 rfl ?_
  obtain ⟨v1, hv1, hv19⟩ := ev_isR_ok st_1
  have hwoA : ev_wo D (lw_eA c1) (fun q : Nat => s.heap.size ≤ q) ([] ++ [bx]) ws1 (0 + 1) ev_hA H1 := by
    have e : ev_hs ev_hA 0 (9, ev_blank.getD 9 []) = ev_hA := ev_teq_ok 8 _ _ (by decide +kernel)
    rw [e] at hwo1
    exact hwo1
  refine lw_init (As := []) (rest := [.ref bx]) hcx lwi_4 dl_4 hv1 hv19 hwoA hS1 trivial rfl rfl hl.1 (Nat.le_of_ble_eq_true rfl) (Nat.le_of_ble_eq_true rfl) (Nat.le_of_ble_eq_true rfl) fun ads2 ws2 H2 locs2 hp2 hwo2 hS2 => ?_
  have hbx : ads2[0]? = some bx := by obtain ⟨x, rfl⟩ := hp2; rfl
  refine lv_astore_n (lv' := [(1, .ref bx), (0, .ref b)]) hx hb dl_7 rfl hl (by decide) rfl (fun ls hl => ?_)
  refine lw_new (ci := 10) hcx rfl lwn_8 dl_8 hwo2 (Nat.le_of_ble_eq_true rfl) hS2 (Nat.le_of_ble_eq_true rfl) (Nat.le_of_ble_eq_true rfl) fun bm ws3 H3 hwo3 hS3 => ?_
  refine lv_dup hx hb dl_11 rfl ?_
  obtain ⟨v2, hv2, hv29⟩ := ev_isR_ok st_2
  have hl83 : ads2.length = 83 := by rw [← hwo2.1, List.length_map]; exact hwo2.2.1
  have hbm : (ads2 ++ [bm])[83]? = some bm := by rw [List.getElem?_append_right (by omega), hl83]; rfl
  refine lw_init (As := []) (rest := [.ref bm]) hcx lwi_12 dl_12 hv2 hv29 hwo3 hS3 trivial hbm rfl hl.1 (Nat.le_of_ble_eq_true rfl) (Nat.le_of_ble_eq_true rfl) (Nat.le_of_ble_eq_true rfl) fun ads4 ws4 H4 locs4 hp4 hwo4 hS4 => ?_
  have hbx4 : ads4[0]? = some bx := by obtain ⟨x, rfl⟩ := hp4; rw [List.append_assoc, List.getElem?_append_left (by omega)]; exact hbx
  have hbm4 : ads4[83]? = some bm := by obtain ⟨x, rfl⟩ := hp4; rw [List.getElem?_append_left (by simp; omega)]; exact hbm
  refine lv_astore_n (lv' := [(2, .ref bm), (1, .ref bx), (0, .ref b)]) hx hb dl_15 rfl hl (by decide) rfl (fun ls hl => ?_)
  refine lv_iconst (v := ev_i 0) hx hb dl_16 (by decide) ?_
  refine lv_istore_n (lv' := [(3, .int (ev_i 0)), (2, .ref bm), (1, .ref bx), (0, .ref b)]) hx hb dl_17 rfl hl (by decide) rfl (fun ls hl => ?_)
  refine W.widen (k := 133) (n := 14699) (Nat.le_of_ble_eq_true rfl) (Nat.le_of_ble_eq_true rfl) ?_
  have hone : ∀ (H1 : Heap) (locs1 : List Loc) (ls : Array Slot), va_S (fun q : Nat => s.heap.size ≤ q) s.heap H1 locs1 → W p l e room_1 s m #[Value.ref b] below meth c H1 locs1 133 14699 (lw_Z below #[Value.ref b] s) (F0 m 1142 ls []) := by
    intro H1 locs1 ls hS1
    refine lv_iconst (v := 1) hx hb dl_1142 (by decide) ?_
    refine va_forget (fun q hq => hS1.2.2 q hq) ?_
    refine W.widen (k := 600000) (n := 7302250) (by decide) (by decide) ?_
    exact lw_ret hx hb hr hlocks dl_1143
  have hst : lw_St hC hR D (fun q => s.heap.size ≤ q) c1 ads4 0 0 ws4 H4 := lw_St0 hwo4 hok hs0
  exact lw_loop en_all hcx hf1 hf2 hcc hcr hL hbx4 hbm4 (by decide) (by decide) hone 513 0 0 ws4 H4 locs4 ls (by omega) (by omega) (by omega) hst hS4 hl
