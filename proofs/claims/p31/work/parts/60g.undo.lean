/-! undo and redo on exact heaps: what is done and undone stays 40 at most together -/
theorem rf_exC (hen : en_ok) {l : Launch} {b0 a : Nat} {lo : List ev_V} {g w : Nat → Int32} {E : e2_E} {h0 hh : ev_H} (hK : rf_K h0 hh lo g w) (ha : lo[6]? = some (sy_I (ev_i a))) (ha40 : a ≤ 40) : sy_C l 1 242 [(2, 83, b0)] E hh (fun v _ h' => v = (9, 0, 0) ∧ ∃ g' w', rf_K h0 h' lo g' w') :=
  sy_con (D := 0) (C := evd_242) (X := hx_242) [] hen ei_242 hxe_242 (Nat.le_of_ble_eq_true rfl) fun d' F G _ hF hG => rf_exchange hK ha ha40 d' F G hF hG
/-- the heap behind an undo or redo -/
def rf_U (h0 : ev_H) (lo : List ev_V) (h' : ev_H) : Prop := ∃ lo' g' w' a' u', rf_K h0 h' lo' g' w' ∧ lo'.length = lo.length ∧ lo'[6]? = some (sy_I (ev_i a')) ∧ lo'[34]? = some (sy_I (ev_i u')) ∧ a' + u' ≤ 40 ∧ ∀ j, j ≠ 6 → j ≠ 34 → lo'[j]? = lo[j]?
theorem rf_undo (hen : en_ok) {l : Launch} {b0 a u : Nat} {lo : List ev_V} {g w : Nat → Int32} {E : e2_E} {h0 hh : ev_H} (hK : rf_K h0 hh lo g w) (ha : lo[6]? = some (sy_I (ev_i a))) (hu : lo[34]? = some (sy_I (ev_i u))) (hau : a + u ≤ 40) : sy_C l 2 247 [(2, 83, b0)] E hh (fun v _ h' => (v = sy_I 0 ∨ v = sy_I 1) ∧ rf_U h0 lo h') := by
  refine sy_con (D := 1) (C := evd_247) (X := hx_247) [] hen ei_247 hxe_247 (Nat.le_of_ble_eq_true rfl) fun d' F G hd' hF hG => ?_
  have l6 := (List.getElem?_eq_some_iff.mp ha).1
  have l34 := (List.getElem?_eq_some_iff.mp hu).1
  show G 0 [(2, 83, b0)] [] E hh
  refine sy_aload hG a247_0 rfl (sy_getf hG a247_1 (by omega) hK.1 ha (Or.inl rfl) (sy_ifc hG a247_4 (fun z => ?_) (fun _ => sy_push (y := 0) hG a247_7 rfl (sy_iret hG a247_8 (Or.inr ⟨rfl, Or.inl rfl⟩) (hF _ _ _ ⟨Or.inl rfl, lo, g, w, a, u, hK, rfl, ha, hu, hau, fun _ _ _ => rfl⟩)))))
  obtain ⟨a, rfl⟩ : ∃ a', a = a' + 1 := ⟨a - 1, by
    have : a ≠ 0 := fun h => z (by rw [h]; rfl)
    omega⟩
  have hK1 := hK.o' (j := 6) (x := ev_i a) ⟨by omega, by omega⟩
  have hK2 := hK1.o' (j := 34) (x := ev_i (u + 1)) ⟨by omega, by omega⟩
  refine sy_aload hG a247_9 rfl (sy_dup hG a247_10 rfl (sy_getf hG a247_11 (by omega) hK.1 ha (Or.inl rfl) (sy_push (y := 1) hG a247_14 rfl (sy_bin2 hG a247_15 ?_))))
  rw [show eb_sub (ev_i (a + 1)) 1 = ev_i a from sy_dec a]
  refine sy_putf hG a247_16 (by omega) hK.1 (by omega) (Or.inl rfl) (sy_aload hG a247_19 rfl (sy_dup hG a247_20 rfl (sy_getf (v := sy_I (ev_i u)) hG a247_21 (by omega) hK1.1 (by rw [List.getElem?_set, if_neg (by omega)]; exact hu) (Or.inl rfl) (sy_push (y := ev_i 1) hG a247_24 rfl (sy_bin2 hG a247_25 ?_)))))
  rw [show eb_add (ev_i u) (ev_i 1) = ev_i (u + 1) from sy_add u 1]
  have e6 : ((lo.set 6 (sy_I (ev_i a))).set 34 (sy_I (ev_i (u + 1))))[6]? = some (sy_I (ev_i a)) := by rw [List.getElem?_set, if_neg (by omega), List.getElem?_set, if_pos rfl, if_pos l6]
  refine sy_putf hG a247_26 (by omega) hK1.1 (by rw [List.length_set]; omega) (Or.inl rfl) (sy_aload hG a247_29 rfl (sy_virt (qs := []) (r := []) hG a247_30 rfl rfl (by omega) hK2.1 rfl (rf_exC hen hK2 e6 (by omega)) hd' (fun v E' h' hp => ?_)))
  obtain ⟨rfl, g', w', hK'⟩ := hp
  refine ⟨by show (9 : Nat) ≠ 12; decide, ?_⟩
  rw [sy_bh9]
  refine sy_push (y := 1) hG a247_33 rfl (sy_iret hG a247_34 (Or.inr ⟨rfl, Or.inr rfl⟩) (hF _ _ _ ⟨Or.inr rfl, _, g', w', a, u + 1, hK', by simp only [List.length_set], e6, ?_, by omega, fun j j6 j34 => ?_⟩))
  · rw [List.getElem?_set, if_pos rfl, if_pos (by rw [List.length_set]; exact l34)]
  · rw [List.getElem?_set, if_neg (fun z => j34 z.symm), List.getElem?_set, if_neg (fun z => j6 z.symm)]
theorem rf_redo (hen : en_ok) {l : Launch} {b0 a u : Nat} {lo : List ev_V} {g w : Nat → Int32} {E : e2_E} {h0 hh : ev_H} (hK : rf_K h0 hh lo g w) (ha : lo[6]? = some (sy_I (ev_i a))) (hu : lo[34]? = some (sy_I (ev_i u))) (hau : a + u ≤ 40) : sy_C l 2 248 [(2, 83, b0)] E hh (fun v _ h' => (v = sy_I 0 ∨ v = sy_I 1) ∧ rf_U h0 lo h') := by
  refine sy_con (D := 1) (C := evd_248) (X := hx_248) [] hen ei_248 hxe_248 (Nat.le_of_ble_eq_true rfl) fun d' F G hd' hF hG => ?_
  have l6 := (List.getElem?_eq_some_iff.mp ha).1
  have l34 := (List.getElem?_eq_some_iff.mp hu).1
  show G 0 [(2, 83, b0)] [] E hh
  refine sy_aload hG a248_0 rfl (sy_getf hG a248_1 (by omega) hK.1 hu (Or.inl rfl) (sy_ifc hG a248_4 (fun z => ?_) (fun _ => sy_push (y := 0) hG a248_7 rfl (sy_iret hG a248_8 (Or.inr ⟨rfl, Or.inl rfl⟩) (hF _ _ _ ⟨Or.inl rfl, lo, g, w, a, u, hK, rfl, ha, hu, hau, fun _ _ _ => rfl⟩)))))
  obtain ⟨u, rfl⟩ : ∃ u', u = u' + 1 := ⟨u - 1, by
    have : u ≠ 0 := fun h => z (by rw [h]; rfl)
    omega⟩
  refine sy_aload hG a248_9 rfl (sy_virt (qs := []) (r := []) hG a248_10 rfl rfl (by omega) hK.1 rfl (rf_exC hen hK ha (by omega)) hd' (fun v E' h' hp => ?_))
  obtain ⟨rfl, g', w', hK'⟩ := hp
  refine ⟨by show (9 : Nat) ≠ 12; decide, ?_⟩
  rw [sy_bh9]
  have hK1 := hK'.o' (j := 6) (x := ev_i (a + 1)) ⟨by omega, by omega⟩
  have hK2 := hK1.o' (j := 34) (x := ev_i u) ⟨by omega, by omega⟩
  refine sy_aload hG a248_13 rfl (sy_dup hG a248_14 rfl (sy_getf hG a248_15 (by omega) hK'.1 ha (Or.inl rfl) (sy_push (y := ev_i 1) hG a248_18 rfl (sy_bin2 hG a248_19 ?_))))
  rw [show eb_add (ev_i a) (ev_i 1) = ev_i (a + 1) from sy_add a 1]
  refine sy_putf hG a248_20 (by omega) hK'.1 (by omega) (Or.inl rfl) (sy_aload hG a248_23 rfl (sy_dup hG a248_24 rfl (sy_getf (v := sy_I (ev_i (u + 1))) hG a248_25 (by omega) hK1.1 (by rw [List.getElem?_set, if_neg (by omega)]; exact hu) (Or.inl rfl) (sy_push (y := 1) hG a248_28 rfl (sy_bin2 hG a248_29 ?_)))))
  rw [show eb_sub (ev_i (u + 1)) 1 = ev_i u from sy_dec u]
  refine sy_putf hG a248_30 (by omega) hK1.1 (by rw [List.length_set]; omega) (Or.inl rfl) (sy_push (y := 1) hG a248_33 rfl (sy_iret hG a248_34 (Or.inr ⟨rfl, Or.inr rfl⟩) (hF _ _ _ ⟨Or.inr rfl, _, g', w', a + 1, u, hK2, by simp only [List.length_set], ?_, ?_, by omega, fun j j6 j34 => ?_⟩)))
  · rw [List.getElem?_set, if_neg (by omega), List.getElem?_set, if_pos rfl, if_pos l6]
  · rw [List.getElem?_set, if_pos rfl, if_pos (by rw [List.length_set]; exact l34)]
  · rw [List.getElem?_set, if_neg (fun z => j34 z.symm), List.getElem?_set, if_neg (fun z => j6 z.symm)]
