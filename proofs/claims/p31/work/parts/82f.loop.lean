/-! THE LOOP over the calls -/
def lw_lC : List (Nat × List ev_V) := [(123, [(11, 0, 4294967295), (11, 0, 4294967295), (11, 0, 4294967295), (11, 0, 4294967295), (11, 0, 4294967295)]), (124, [(11, 0, 4294967295)]), (125, []), (126, [(11, 0, 4294967295)]), (127, [(11, 0, 4294967295)]), (128, [(11, 0, 4294967295), (11, 0, 4294967295)]), (129, [(11, 0, 4294967295), (11, 0, 4294967295)]), (130, [(11, 0, 4294967295)]), (131, [(11, 0, 4294967295)]), (132, []), (133, []), (134, []), (135, []), (136, []), (137, []), (138, [(11, 0, 4294967295)]), (139, [(11, 0, 4294967295), (11, 0, 4294967295)]), (140, [(11, 0, 4294967295)]), (141, []), (142, [(11, 0, 4294967295), (11, 0, 4294967295)]), (143, []), (144, [(11, 0, 4294967295)]), (145, [(11, 0, 4294967295), (11, 0, 4294967295), (11, 0, 4294967295)]), (146, []), (147, [(11, 0, 4294967295), (11, 0, 4294967295)]), (148, [(11, 0, 4294967295), (11, 0, 4294967295), (11, 0, 4294967295), (11, 0, 4294967295)]), (149, [(11, 0, 4294967295)]), (150, [(11, 0, 4294967295), (11, 0, 4294967295), (11, 0, 4294967295), (11, 2147483648, 2147483649)]), (151, [(11, 0, 4294967295)]), (153, [(11, 0, 4294967295)]), (154, [(11, 0, 4294967295), (11, 0, 4294967295), (11, 0, 4294967295)]), (155, [(11, 0, 4294967295), (11, 0, 4294967295)]), (156, [(11, 0, 4294967295)]), (157, [(11, 0, 4294967295)]), (158, [(11, 0, 4294967295)])]
def lw_lR : List (Nat × List ev_V) := [(289, [(11, 0, 4294967295), (11, 0, 4294967295), (11, 0, 4294967295), (11, 0, 4294967295), (11, 0, 4294967295)]), (290, [(11, 0, 4294967295)]), (211, [(11, 0, 4294967295)]), (236, [(11, 0, 4294967295)]), (237, [(11, 0, 4294967295), (11, 0, 4294967295)]), (240, [(11, 0, 4294967295), (11, 0, 4294967295)]), (243, [(11, 0, 4294967295)]), (244, [(11, 0, 4294967295)]), (246, []), (249, []), (251, []), (252, []), (253, [(11, 0, 4294967295)]), (256, [(11, 0, 4294967295), (11, 0, 4294967295)]), (257, [(11, 0, 4294967295)]), (258, []), (261, [(11, 0, 4294967295), (11, 0, 4294967295)]), (262, []), (269, [(11, 0, 4294967295), (11, 0, 4294967295), (11, 0, 4294967295)]), (270, []), (271, [(11, 0, 4294967295), (11, 0, 4294967295)]), (274, [(11, 0, 4294967295), (11, 0, 4294967295), (11, 0, 4294967295), (11, 0, 4294967295)]), (250, [(11, 0, 4294967295)]), (278, [(11, 0, 4294967295), (11, 0, 4294967295), (11, 0, 4294967295), (11, 2147483648, 2147483649)]), (279, [(11, 0, 4294967295)]), (283, [(11, 0, 4294967295)]), (284, [(11, 0, 4294967295), (11, 0, 4294967295), (11, 0, 4294967295)]), (285, [(11, 0, 4294967295), (11, 0, 4294967295)]), (286, [(11, 0, 4294967295)]), (287, [(11, 0, 4294967295)]), (288, [(11, 0, 4294967295)])]
theorem lw_gt {L i : Nat} (hL : L ≤ 3072) (hi : i ≤ 4000) : Int32.ofNat L - 6 < ev_i i ↔ (L : Int) - 6 < (i : Int) := by
  have e1 : Int32.ofNat L - 6 = Int32.ofInt ((L : Int) - 6) := by
    rw [Int32.ofInt_sub, show Int32.ofInt (L : Int) = Int32.ofNat L from mo_ev]
    rfl
  have e2 : ev_i i = Int32.ofInt (i : Int) := mo_ev.symm
  rw [e1, e2]
  exact mw_lt (by omega) (by omega)
theorem lw_inc (i : Nat) : ev_i i + Int32.ofInt 6 = ev_i (i + 6) := by
  rw [← mo_ev, ← mo_ev, ← Int32.ofInt_add]
  rfl
section LawLoop
variable {p : Program} {l : Launch} {e : Env} {s : State} {m : MethodId} {below : List Frame} {meth : Method} {c : Code} {b L : Nat} {xs : Nat → Int32} {D : va_G} {c1 : Nat → ClassId} {Q : State → Prop} {hC hN : Nat → ev_H} {EC ER : e2_E} {hB : ev_H} {hR hM : Nat → Nat → ev_H}
set_option maxHeartbeats 8000000 in
set_option maxRecDepth 100000 in
theorem lw_loop (hen : en_ok) (hcx : lw_cx p s m c b L xs D (lw_no c1)) (hf1 : lw_F1 hC hN EC) (hf2 : lw_F2 hB hR hM ER) (hcc : ∀ k as, (k, as) ∈ lw_lC → lw_cC l hC hN EC k as) (hcr : ∀ k as, (k, as) ∈ lw_lR → lw_cR l hR hM ER k as) (hL : L ≤ 3072) {ads : List Nat} {bx bm cells slots : Nat} (hbx : ads[0]? = some bx) (hbm : ads[83]? = some bm) (hr1 : cells ≤ 600000) (hr2 : slots ≤ 7302250) (hone : ∀ (H1 : Heap) (locs1 : List Loc) (ls : Array Slot), va_S (fun q => s.heap.size ≤ q) s.heap H1 locs1 → W p l e room_1 s m #[Value.ref b] below meth c H1 locs1 cells slots Q (F0 m 1142 ls [])) : ∀ (n i T : Nat) (ws : va_W) (H : Heap) (locs : List Loc) (ls : Array Slot), L < i + 6 * n → i ≤ 4000 → T ≤ 100000 → lw_St hC hR D (fun q => s.heap.size ≤ q) c1 ads T T ws H → va_S (fun q => s.heap.size ≤ q) s.heap H locs → lv_has ls 4 [(3, .int (ev_i i)), (2, .ref bm), (1, .ref bx), (0, .ref b)] → W p l e room_1 s m #[Value.ref b] below meth c H locs cells slots Q (F0 m 18 ls []) := by
  obtain ⟨hx, hb, hml, hown, hts, hX, hbl, -⟩ := id hcx
  have hbA : ¬ (fun q : Nat => s.heap.size ≤ q) b := Nat.not_le.mpr hbl
  intro n
  induction n with
  | zero =>
    intro i T ws H locs ls hn hi hT hst hS hl
    refine lv_iload_n hx hb dl_18 rfl (lv_at hl 0 rfl) ?_
    refine lv_aload_n hx hb dl_19 rfl (lv_at hl 3 rfl) ?_
    refine va_slen hx hb hX hbl hbA hS dl_20 ?_
    refine lv_bipush (v := 6) hx hb dl_21 (by decide) ?_
    refine lv_isub hx hb dl_23 ?_
    exact lv_icmp_gt (tgt := 1142) hx hb dl_24 (by decide) (fun _ => hone _ _ _ hS) (fun z => absurd ((lw_gt hL hi).mpr (by omega)) z)
  | succ n ih =>
    intro i T ws H locs ls hn hi hT hst hS hl
    refine lv_iload_n hx hb dl_18 rfl (lv_at hl 0 rfl) ?_
    refine lv_aload_n hx hb dl_19 rfl (lv_at hl 3 rfl) ?_
    refine va_slen hx hb hX hbl hbA hS dl_20 ?_
    refine lv_bipush (v := 6) hx hb dl_21 (by decide) ?_
    refine lv_isub hx hb dl_23 ?_
    refine lv_icmp_gt (tgt := 1142) hx hb dl_24 (by decide) (fun _ => hone _ _ _ hS) (fun z => ?_)
    have hi6 : i + 6 ≤ L := by
      have : ¬ ((L : Int) - 6 < (i : Int)) := fun w => z ((lw_gt hL hi).mpr w)
      omega
    have hend : ∀ (ws1 : va_W) (H1 : Heap) (locs1 : List Loc) (T1 : Nat), T1 ≤ 100000 → lw_St hC hR D (fun q => s.heap.size ≤ q) c1 ads T1 T1 ws1 H1 → va_S (fun q => s.heap.size ≤ q) s.heap H1 locs1 → W p l e room_1 s m #[Value.ref b] below meth c H1 locs1 cells slots Q (F0 m 1136 ls []) := by
      intro ws1 H1 locs1 T1 hT1 hst1 hS1
      refine lv_iinc (v := ev_i (i + 6)) (lv' := [(3, .int (ev_i (i + 6))), (2, .ref bm), (1, .ref bx), (0, .ref b)]) hx hb dl_1136 hl (k := 0) rfl (lw_inc i) (by decide) rfl (fun ls hl => ?_)
      exact lv_goto (tgt := 18) hx hb dl_1139 (by decide) (ih (i + 6) T1 ws1 H1 locs1 ls (by omega) (by omega) hT1 hst1 hS1 hl)
    refine lv_aload_n hx hb dl_27 rfl (lv_at hl 3 rfl) ?_
    refine lv_iload_n hx hb dl_28 rfl (lv_at hl 0 rfl) ?_
    refine va_sld hx hb hX hbl hbA hS (i := ev_i i) (show vp_in (ev_i i) L from ev_in (by omega) (by omega)) dl_29 ?_
    refine lv_bipush (v := 63) hx hb dl_30 (by decide) ?_
    refine lv_iand hx hb dl_32 ?_
    obtain ⟨j, hj, ej⟩ := pk_andE (xs (Int32.toNatClampNeg (ev_i i))) (m := 63) 6 (by decide)
    rw [ej]
    have hk : (nI j).toInt = (j : Int) := nI_toInt (by omega)
    match j, hj, hk with
    | 0, _, _ => exact lv_tableIn (off := 159) (tgt := 192) hx hb dl_33 (by decide) (by decide) (by decide) (by decide) (lwc_feed hen hcx hf1 hf2 hL hi6 hT hst hS (lv_at hl 3 rfl) (lv_at hl 2 rfl) (lv_at hl 1 rfl) (lv_at hl 0 rfl) hl.1 hbx hbm hr1 hr2 hend (hcc _ _ (by decide)) (hcr _ _ (by decide)))
    | 1, _, _ => exact lv_tableIn (off := 222) (tgt := 255) hx hb dl_33 (by decide) (by decide) (by decide) (by decide) (lwc_end hen hcx hf1 hf2 hL hi6 hT hst hS (lv_at hl 3 rfl) (lv_at hl 2 rfl) (lv_at hl 1 rfl) (lv_at hl 0 rfl) hl.1 hbx hbm hr1 hr2 hend (hcc _ _ (by decide)) (hcr _ _ (by decide)))
    | 2, _, _ => exact lv_tableIn (off := 245) (tgt := 278) hx hb dl_33 (by decide) (by decide) (by decide) (by decide) (lwc_meadow hen hcx hf1 hf2 hL hi6 hT hst hS (lv_at hl 3 rfl) (lv_at hl 2 rfl) (lv_at hl 1 rfl) (lv_at hl 0 rfl) hl.1 hbx hbm hr1 hr2 hend (hcc _ _ (by decide)))
    | 3, _, _ => exact lv_tableIn (off := 258) (tgt := 291) hx hb dl_33 (by decide) (by decide) (by decide) (by decide) (lwc_fault hen hcx hf1 hf2 hL hi6 hT hst hS (lv_at hl 3 rfl) (lv_at hl 2 rfl) (lv_at hl 1 rfl) (lv_at hl 0 rfl) hl.1 hbx hbm hr1 hr2 hend (hcc _ _ (by decide)) (hcr _ _ (by decide)))
    | 4, _, _ => exact lv_tableIn (off := 281) (tgt := 314) hx hb dl_33 (by decide) (by decide) (by decide) (by decide) (lwc_thing hen hcx hf1 hf2 hL hi6 hT hst hS (lv_at hl 3 rfl) (lv_at hl 2 rfl) (lv_at hl 1 rfl) (lv_at hl 0 rfl) hl.1 hbx hbm hr1 hr2 hend (hcc _ _ (by decide)) (hcr _ _ (by decide)))
    | 5, _, _ => exact lv_tableIn (off := 304) (tgt := 337) hx hb dl_33 (by decide) (by decide) (by decide) (by decide) (lwc_glyph hen hcx hf1 hf2 hL hi6 hT hst hS (lv_at hl 3 rfl) (lv_at hl 2 rfl) (lv_at hl 1 rfl) (lv_at hl 0 rfl) hl.1 hbx hbm hr1 hr2 hend (hcc _ _ (by decide)) (hcr _ _ (by decide)))
    | 6, _, _ => exact lv_tableIn (off := 337) (tgt := 370) hx hb dl_33 (by decide) (by decide) (by decide) (by decide) (lwc_plot hen hcx hf1 hf2 hL hi6 hT hst hS (lv_at hl 3 rfl) (lv_at hl 2 rfl) (lv_at hl 1 rfl) (lv_at hl 0 rfl) hl.1 hbx hbm hr1 hr2 hend (hcc _ _ (by decide)) (hcr _ _ (by decide)))
    | 7, _, _ => exact lv_tableIn (off := 370) (tgt := 403) hx hb dl_33 (by decide) (by decide) (by decide) (by decide) (lwc_mow hen hcx hf1 hf2 hL hi6 hT hst hS (lv_at hl 3 rfl) (lv_at hl 2 rfl) (lv_at hl 1 rfl) (lv_at hl 0 rfl) hl.1 hbx hbm hr1 hr2 hend (hcc _ _ (by decide)) (hcr _ _ (by decide)))
    | 8, _, _ => exact lv_tableIn (off := 393) (tgt := 426) hx hb dl_33 (by decide) (by decide) (by decide) (by decide) (lwc_sow hen hcx hf1 hf2 hL hi6 hT hst hS (lv_at hl 3 rfl) (lv_at hl 2 rfl) (lv_at hl 1 rfl) (lv_at hl 0 rfl) hl.1 hbx hbm hr1 hr2 hend (hcc _ _ (by decide)) (hcr _ _ (by decide)))
    | 9, _, _ => exact lv_tableIn (off := 416) (tgt := 449) hx hb dl_33 (by decide) (by decide) (by decide) (by decide) (lwc_year hen hcx hf1 hf2 hL hi6 hT hst hS (lv_at hl 3 rfl) (lv_at hl 2 rfl) (lv_at hl 1 rfl) (lv_at hl 0 rfl) hl.1 hbx hbm hr1 hr2 hend (hcc _ _ (by decide)) (hcr _ _ (by decide)))
    | 10, _, _ => exact lv_tableIn (off := 429) (tgt := 462) hx hb dl_33 (by decide) (by decide) (by decide) (by decide) (lwc_undo hen hcx hf1 hf2 hL hi6 hT hst hS (lv_at hl 3 rfl) (lv_at hl 2 rfl) (lv_at hl 1 rfl) (lv_at hl 0 rfl) hl.1 hbx hbm hr1 hr2 hend (hcc _ _ (by decide)))
    | 11, _, _ => exact lv_tableIn (off := 442) (tgt := 475) hx hb dl_33 (by decide) (by decide) (by decide) (by decide) (lwc_redo hen hcx hf1 hf2 hL hi6 hT hst hS (lv_at hl 3 rfl) (lv_at hl 2 rfl) (lv_at hl 1 rfl) (lv_at hl 0 rfl) hl.1 hbx hbm hr1 hr2 hend (hcc _ _ (by decide)))
    | 12, _, _ => exact lv_tableIn (off := 455) (tgt := 488) hx hb dl_33 (by decide) (by decide) (by decide) (by decide) (lwc_readings hen hcx hf1 hf2 hL hi6 hT hst hS (lv_at hl 3 rfl) (lv_at hl 2 rfl) (lv_at hl 1 rfl) (lv_at hl 0 rfl) hl.1 hbx hbm hr1 hr2 hend (hcc _ _ (by decide)) (hcr _ _ (by decide)))
    | 13, _, _ => exact lv_tableIn (off := 468) (tgt := 501) hx hb dl_33 (by decide) (by decide) (by decide) (by decide) (lwc_taken hen hcx hf1 hf2 hL hi6 hT hst hS (lv_at hl 3 rfl) (lv_at hl 2 rfl) (lv_at hl 1 rfl) (lv_at hl 0 rfl) hl.1 hbx hbm hr1 hr2 hend (hcc _ _ (by decide)) (hcr _ _ (by decide)))
    | 14, _, _ => exact lv_tableIn (off := 481) (tgt := 514) hx hb dl_33 (by decide) (by decide) (by decide) (by decide) (lwc_weight hen hcx hf1 hf2 hL hi6 hT hst hS (lv_at hl 3 rfl) (lv_at hl 2 rfl) (lv_at hl 1 rfl) (lv_at hl 0 rfl) hl.1 hbx hbm hr1 hr2 hend (hcc _ _ (by decide)) (hcr _ _ (by decide)))
    | 15, _, _ => exact lv_tableIn (off := 494) (tgt := 527) hx hb dl_33 (by decide) (by decide) (by decide) (by decide) (lwc_does hen hcx hf1 hf2 hL hi6 hT hst hS (lv_at hl 3 rfl) (lv_at hl 2 rfl) (lv_at hl 1 rfl) (lv_at hl 0 rfl) hl.1 hbx hbm hr1 hr2 hend (hcc _ _ (by decide)) (hcr _ _ (by decide)))
    | 16, _, _ => exact lv_tableIn (off := 517) (tgt := 550) hx hb dl_33 (by decide) (by decide) (by decide) (by decide) (lwc_will hen hcx hf1 hf2 hL hi6 hT hst hS (lv_at hl 3 rfl) (lv_at hl 2 rfl) (lv_at hl 1 rfl) (lv_at hl 0 rfl) hl.1 hbx hbm hr1 hr2 hend (hcc _ _ (by decide)) (hcr _ _ (by decide)))
    | 17, _, _ => exact lv_tableIn (off := 550) (tgt := 583) hx hb dl_33 (by decide) (by decide) (by decide) (by decide) (lwc_field hen hcx hf1 hf2 hL hi6 hT hst hS (lv_at hl 3 rfl) (lv_at hl 2 rfl) (lv_at hl 1 rfl) (lv_at hl 0 rfl) hl.1 hbx hbm hr1 hr2 hend (hcc _ _ (by decide)) (hcr _ _ (by decide)))
    | 18, _, _ => exact lv_tableIn (off := 573) (tgt := 606) hx hb dl_33 (by decide) (by decide) (by decide) (by decide) (lwc_harm hen hcx hf1 hf2 hL hi6 hT hst hS (lv_at hl 3 rfl) (lv_at hl 2 rfl) (lv_at hl 1 rfl) (lv_at hl 0 rfl) hl.1 hbx hbm hr1 hr2 hend (hcc _ _ (by decide)) (hcr _ _ (by decide)))
    | 19, _, _ => exact lv_tableIn (off := 586) (tgt := 619) hx hb dl_33 (by decide) (by decide) (by decide) (by decide) (lwc_turn hen hcx hf1 hf2 hL hi6 hT hst hS (lv_at hl 3 rfl) (lv_at hl 2 rfl) (lv_at hl 1 rfl) (lv_at hl 0 rfl) hl.1 hbx hbm hr1 hr2 hend (hcc _ _ (by decide)) (hcr _ _ (by decide)))
    | 20, _, _ => exact lv_tableIn (off := 619) (tgt := 652) hx hb dl_33 (by decide) (by decide) (by decide) (by decide) (lwc_plain hen hcx hf1 hf2 hL hi6 hT hst hS (lv_at hl 3 rfl) (lv_at hl 2 rfl) (lv_at hl 1 rfl) (lv_at hl 0 rfl) hl.1 hbx hbm hr1 hr2 hend (hcc _ _ (by decide)) (hcr _ _ (by decide)))
    | 21, _, _ => exact lv_tableIn (off := 632) (tgt := 665) hx hb dl_33 (by decide) (by decide) (by decide) (by decide) (lwc_orders hen hcx hf1 hf2 hL hi6 hT hst hS (lv_at hl 3 rfl) (lv_at hl 2 rfl) (lv_at hl 1 rfl) (lv_at hl 0 rfl) hl.1 hbx hbm hr1 hr2 hend (hcc _ _ (by decide)))
    | 22, _, _ => exact lv_tableIn (off := 655) (tgt := 688) hx hb dl_33 (by decide) (by decide) (by decide) (by decide) (lwc_write hen hcx hf1 hf2 hL hi6 hT hst hS (lv_at hl 3 rfl) (lv_at hl 2 rfl) (lv_at hl 1 rfl) (lv_at hl 0 rfl) hl.1 hbx hbm hr1 hr2 hend (hcc _ _ (by decide)) (hcr _ _ (by decide)))
    | 23, _, _ => exact lv_tableIn (off := 698) (tgt := 731) hx hb dl_33 (by decide) (by decide) (by decide) (by decide) (lwc_watch hen hcx hf1 hf2 hL hi6 hT hst hS (lv_at hl 3 rfl) (lv_at hl 2 rfl) (lv_at hl 1 rfl) (lv_at hl 0 rfl) hl.1 hbx hbm hr1 hr2 hend (hcc _ _ (by decide)) (hcr _ _ (by decide)))
    | 24, _, _ => exact lv_tableIn (off := 711) (tgt := 744) hx hb dl_33 (by decide) (by decide) (by decide) (by decide) (lwc_cows hen hcx hf1 hf2 hL hi6 hT hst hS (lv_at hl 3 rfl) (lv_at hl 2 rfl) (lv_at hl 1 rfl) (lv_at hl 0 rfl) hl.1 hbx hbm hr1 hr2 hend (hcc _ _ (by decide)) (hcr _ _ (by decide)))
    | 25, _, _ => exact lv_tableIn (off := 744) (tgt := 777) hx hb dl_33 (by decide) (by decide) (by decide) (by decide) (lwc_duel hen hcx hf1 hf2 hL hi6 hT hst hS (lv_at hl 3 rfl) (lv_at hl 2 rfl) (lv_at hl 1 rfl) (lv_at hl 0 rfl) hl.1 hbx hbm hr1 hr2 hend (hcc _ _ (by decide)) (hcr _ _ (by decide)))
    | 26, _, _ => exact lv_tableIn (off := 797) (tgt := 830) hx hb dl_33 (by decide) (by decide) (by decide) (by decide) (lwc_lies hen hcx hf1 hf2 hL hi6 hT hst hS (lv_at hl 3 rfl) (lv_at hl 2 rfl) (lv_at hl 1 rfl) (lv_at hl 0 rfl) hl.1 hbx hbm hr1 hr2 hend (hcc _ _ (by decide)) (hcr _ _ (by decide)))
    | 27, _, _ => exact lv_tableIn (off := 820) (tgt := 853) hx hb dl_33 (by decide) (by decide) (by decide) (by decide) (lwc_heard hen hcx hf1 hf2 hL hi6 hT hst hS (lv_at hl 3 rfl) (lv_at hl 2 rfl) (lv_at hl 1 rfl) (lv_at hl 0 rfl) hl.1 hbx hbm hr1 hr2 hend (hcc _ _ (by decide)) (hcr _ _ (by decide)))
    | 28, _, _ => exact lv_tableIn (off := 889) (tgt := 922) hx hb dl_33 (by decide) (by decide) (by decide) (by decide) (lwc_untell hen hcx hf1 hf2 hL hi6 hT hst hS (lv_at hl 3 rfl) (lv_at hl 2 rfl) (lv_at hl 1 rfl) (lv_at hl 0 rfl) hl.1 hbx hbm hr1 hr2 hend (hcc _ _ (by decide)) (hcr _ _ (by decide)))
    | 29, _, _ => exact lv_tableIn (off := 912) (tgt := 945) hx hb dl_33 (by decide) (by decide) (by decide) (by decide) (lwc_later hen hcx hf1 hf2 hL hi6 hT hst hS (lv_at hl 3 rfl) (lv_at hl 2 rfl) (lv_at hl 1 rfl) (lv_at hl 0 rfl) hl.1 hbx hbm hr1 hr2 hend)
    | 30, _, _ => exact lv_tableIn (off := 935) (tgt := 968) hx hb dl_33 (by decide) (by decide) (by decide) (by decide) (lwc_fit hen hcx hf1 hf2 hL hi6 hT hst hS (lv_at hl 3 rfl) (lv_at hl 2 rfl) (lv_at hl 1 rfl) (lv_at hl 0 rfl) hl.1 hbx hbm hr1 hr2 hend (hcc _ _ (by decide)) (hcr _ _ (by decide)))
    | 31, _, _ => exact lv_tableIn (off := 958) (tgt := 991) hx hb dl_33 (by decide) (by decide) (by decide) (by decide) (lwc_sure hen hcx hf1 hf2 hL hi6 hT hst hS (lv_at hl 3 rfl) (lv_at hl 2 rfl) (lv_at hl 1 rfl) (lv_at hl 0 rfl) hl.1 hbx hbm hr1 hr2 hend (hcc _ _ (by decide)) (hcr _ _ (by decide)))
    | 32, _, _ => exact lv_tableIn (off := 1001) (tgt := 1034) hx hb dl_33 (by decide) (by decide) (by decide) (by decide) (lwc_ask hen hcx hf1 hf2 hL hi6 hT hst hS (lv_at hl 3 rfl) (lv_at hl 2 rfl) (lv_at hl 1 rfl) (lv_at hl 0 rfl) hl.1 hbx hbm hr1 hr2 hend (hcc _ _ (by decide)) (hcr _ _ (by decide)))
    | 33, _, _ => exact lv_tableIn (off := 1034) (tgt := 1067) hx hb dl_33 (by decide) (by decide) (by decide) (by decide) (lwc_image hen hcx hf1 hf2 hL hi6 hT hst hS (lv_at hl 3 rfl) (lv_at hl 2 rfl) (lv_at hl 1 rfl) (lv_at hl 0 rfl) hl.1 hbx hbm hr1 hr2 hend (hcc _ _ (by decide)) (hcr _ _ (by decide)))
    | 34, _, _ => exact lv_tableIn (off := 1057) (tgt := 1090) hx hb dl_33 (by decide) (by decide) (by decide) (by decide) (lwc_back hen hcx hf1 hf2 hL hi6 hT hst hS (lv_at hl 3 rfl) (lv_at hl 2 rfl) (lv_at hl 1 rfl) (lv_at hl 0 rfl) hl.1 hbx hbm hr1 hr2 hend (hcc _ _ (by decide)) (hcr _ _ (by decide)))
    | 35, _, _ => exact lv_tableIn (off := 1080) (tgt := 1113) hx hb dl_33 (by decide) (by decide) (by decide) (by decide) (lwc_about hen hcx hf1 hf2 hL hi6 hT hst hS (lv_at hl 3 rfl) (lv_at hl 2 rfl) (lv_at hl 1 rfl) (lv_at hl 0 rfl) hl.1 hbx hbm hr1 hr2 hend (hcc _ _ (by decide)) (hcr _ _ (by decide)))
    | j + 36, hj, hk => exact lv_tableOut (tgt := 1136) hx hb dl_33 (by rw [hk]; omega) (by decide) (hend ws H locs T hT hst hS)
end LawLoop
