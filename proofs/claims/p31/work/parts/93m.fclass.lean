/-! CLOSED FACTS OF THE PRINTED HEAPS: the class -/
theorem f0_ceq {a b : ev_C} (h : ev_ceq a b = true) : a = b := ev_teq_ok 0 a b h
set_option maxRecDepth 1000000 in
theorem f1_a1x : ∀ k, k < 83 → k ≠ 1 → k ≠ 1 + 5 → ev_ceq (ev_hg h_la k) (ev_hg h_wa k) = true := by decide +kernel
theorem f1_a1 : ∀ k, k < 83 → k ≠ 1 → k ≠ 1 + 5 → ev_hg h_la k = ev_hg h_wa k := fun k h0 h1 h2 => f0_ceq (f1_a1x k h0 h1 h2)
set_option maxRecDepth 1000000 in
theorem f1_a2 : ev_hg h_wa 1 = (8, (ev_hg h_wa 1).2) ∧ (ev_hg h_wa 1).2[0]? = some (11, 2147483652, 2147483668) ∧ ev_hg h_la 1 = (8, (ev_hg h_wa 1).2.set 0 (1, 1, 4294967296)) := by decide +kernel
set_option maxRecDepth 1000000 in
theorem f1_a3 : ev_hg h_wa (1 + 5) = (50, (ev_hg h_wa (1 + 5)).2) ∧ ev_hg h_la (1 + 5) = (58, (ev_hg h_wa (1 + 5)).2) := by decide +kernel
set_option maxRecDepth 1000000 in
theorem f1_a4x : ∀ k, k < 133 → ¬ (0 ≤ k ∧ k < 83) → ev_ceq (ev_hg h_la k) ((100 + k, [])) = true := by decide +kernel
theorem f1_a4 : ∀ k, k < 133 → ¬ (0 ≤ k ∧ k < 83) → ev_hg h_la k = (100 + k, []) := fun k h0 h1 => f0_ceq (f1_a4x k h0 h1)
set_option maxRecDepth 1000000 in
theorem f1_a5 : ∀ k, k < 83 → (ev_hg h_la k).1 < 60 := by decide +kernel
set_option maxRecDepth 1000000 in
theorem f1_a6 : (ev_hg h_la 50).1 ≠ 57 ∧ (ev_hg h_la 68).1 ≠ 57 ∧ (ev_hg h_wa 50).1 ≠ 57 ∧ (ev_hg h_wa 68).1 ≠ 57 := by decide +kernel
set_option maxRecDepth 1000000 in
theorem f1_a7 : ev_hg h_wa 0 = (9, (ev_hg h_wa 0).2) ∧ (ev_hg h_wa 0).2[5]? = some (2, 77, 0) ∧ ev_hg h_wa 77 = (1, (ev_hg h_wa 77).2) ∧ (ev_hg h_wa 77).2[3]? = some (1, 0, 4294967296) := by decide +kernel
set_option maxRecDepth 1000000 in
theorem f1_a8 : e2_idh 0 8 (e2_gset h_wa 77 3 (0, 0, 0)) = true ∧ e2_idh 1 8 h_wa = true := by decide +kernel
set_option maxRecDepth 1000000 in
theorem f1_a9 : ∀ k, k < 83 → (ev_hg h_wa k).1 < 60 := by decide +kernel
set_option maxRecDepth 1000000 in
theorem f1_a10x : ∀ k, k < 133 → ¬ (0 ≤ k ∧ k < 83) → ev_ceq (ev_hg h_wa k) ((100 + k, [])) = true := by decide +kernel
theorem f1_a10 : ∀ k, k < 133 → ¬ (0 ≤ k ∧ k < 83) → ev_hg h_wa k = (100 + k, []) := fun k h0 h1 => f0_ceq (f1_a10x k h0 h1)
theorem f1_aC : lw_okC h_la h_wa 1 := ⟨f1_a1, ⟨_, f1_a2⟩, ⟨_, f1_a3⟩, f1_a4, f1_a5, f1_a6.1, f1_a6.2.1, by decide⟩
theorem f1_aL : lw_okL h_wa := ⟨⟨_, f1_a7.1, f1_a7.2.1⟩, ⟨_, f1_a7.2.2.1, f1_a7.2.2.2⟩, f1_a8.1, f1_a9, f1_a10, f1_a6.2.2.1, f1_a6.2.2.2⟩
set_option maxRecDepth 1000000 in
theorem f1_aq : e2_idh 2 8 h_la = true ∧ e2_hle E_la 8 h_wa h_la = true := by decide +kernel
set_option maxRecDepth 1000000 in
theorem f1_am0 : e2_idh 2 8 h_lam0 = true ∧ e2_hle E_la 8 h_wa h_lam0 = true := by decide +kernel
set_option maxRecDepth 1000000 in
theorem f1_am1 : e2_idh 2 8 h_lam1 = true ∧ e2_hle E_la 8 h_wc h_lam1 = true := by decide +kernel
set_option maxRecDepth 1000000 in
theorem f1_c1x : ∀ k, k < 83 → k ≠ 17 → k ≠ 17 + 5 → ev_ceq (ev_hg h_lc k) (ev_hg h_wc k) = true := by decide +kernel
theorem f1_c1 : ∀ k, k < 83 → k ≠ 17 → k ≠ 17 + 5 → ev_hg h_lc k = ev_hg h_wc k := fun k h0 h1 h2 => f0_ceq (f1_c1x k h0 h1 h2)
set_option maxRecDepth 1000000 in
theorem f1_c2 : ev_hg h_wc 17 = (8, (ev_hg h_wc 17).2) ∧ (ev_hg h_wc 17).2[0]? = some (11, 2147483652, 2147483668) ∧ ev_hg h_lc 17 = (8, (ev_hg h_wc 17).2.set 0 (1, 1, 4294967296)) := by decide +kernel
set_option maxRecDepth 1000000 in
theorem f1_c3 : ev_hg h_wc (17 + 5) = (50, (ev_hg h_wc (17 + 5)).2) ∧ ev_hg h_lc (17 + 5) = (58, (ev_hg h_wc (17 + 5)).2) := by decide +kernel
set_option maxRecDepth 1000000 in
theorem f1_c4x : ∀ k, k < 133 → ¬ (0 ≤ k ∧ k < 83) → ev_ceq (ev_hg h_lc k) ((100 + k, [])) = true := by decide +kernel
theorem f1_c4 : ∀ k, k < 133 → ¬ (0 ≤ k ∧ k < 83) → ev_hg h_lc k = (100 + k, []) := fun k h0 h1 => f0_ceq (f1_c4x k h0 h1)
set_option maxRecDepth 1000000 in
theorem f1_c5 : ∀ k, k < 83 → (ev_hg h_lc k).1 < 60 := by decide +kernel
set_option maxRecDepth 1000000 in
theorem f1_c6 : (ev_hg h_lc 50).1 ≠ 57 ∧ (ev_hg h_lc 68).1 ≠ 57 ∧ (ev_hg h_wc 50).1 ≠ 57 ∧ (ev_hg h_wc 68).1 ≠ 57 := by decide +kernel
set_option maxRecDepth 1000000 in
theorem f1_c7 : ev_hg h_wc 0 = (9, (ev_hg h_wc 0).2) ∧ (ev_hg h_wc 0).2[5]? = some (2, 77, 0) ∧ ev_hg h_wc 77 = (1, (ev_hg h_wc 77).2) ∧ (ev_hg h_wc 77).2[3]? = some (1, 0, 4294967296) := by decide +kernel
set_option maxRecDepth 1000000 in
theorem f1_c8 : e2_idh 0 8 (e2_gset h_wc 77 3 (0, 0, 0)) = true ∧ e2_idh 1 8 h_wc = true := by decide +kernel
set_option maxRecDepth 1000000 in
theorem f1_c9 : ∀ k, k < 83 → (ev_hg h_wc k).1 < 60 := by decide +kernel
set_option maxRecDepth 1000000 in
theorem f1_c10x : ∀ k, k < 133 → ¬ (0 ≤ k ∧ k < 83) → ev_ceq (ev_hg h_wc k) ((100 + k, [])) = true := by decide +kernel
theorem f1_c10 : ∀ k, k < 133 → ¬ (0 ≤ k ∧ k < 83) → ev_hg h_wc k = (100 + k, []) := fun k h0 h1 => f0_ceq (f1_c10x k h0 h1)
theorem f1_cC : lw_okC h_lc h_wc 17 := ⟨f1_c1, ⟨_, f1_c2⟩, ⟨_, f1_c3⟩, f1_c4, f1_c5, f1_c6.1, f1_c6.2.1, by decide⟩
theorem f1_cL : lw_okL h_wc := ⟨⟨_, f1_c7.1, f1_c7.2.1⟩, ⟨_, f1_c7.2.2.1, f1_c7.2.2.2⟩, f1_c8.1, f1_c9, f1_c10, f1_c6.2.2.1, f1_c6.2.2.2⟩
set_option maxRecDepth 1000000 in
theorem f1_cq : e2_idh 2 8 h_lc = true ∧ e2_hle E_la 8 h_wc h_lc = true := by decide +kernel
set_option maxRecDepth 1000000 in
theorem f1_cm0 : e2_idh 2 8 h_lcm0 = true ∧ e2_hle E_la 8 h_wc h_lcm0 = true := by decide +kernel
set_option maxRecDepth 1000000 in
theorem f1_cm1 : e2_idh 2 8 h_lcm1 = true ∧ e2_hle E_la 8 h_wa h_lcm1 = true := by decide +kernel
noncomputable def lw_hC (tc : Nat) : ev_H := match tc with
  | 1 => h_wa
  | _ => h_wc
noncomputable def lw_hN (tc : Nat) : ev_H := match tc with
  | 1 => h_la
  | _ => h_lc
theorem lw_F1_ok : lw_F1 lw_hC lw_hN E_la := by
  refine ⟨fun T sz h1 h2 h3 => ⟨rfl, fun i b hb => ?_⟩, fun tc htc => ?_⟩
  · match i, hb with
    | 0, hb =>
      cases hb
      exact ⟨lw_T T, lw_T T, rfl, by show 2147483648 ≤ 2147483648 + T; omega, by show 2147483648 + T ≤ 2147583648; omega, rfl, Nat.le_of_eq (Nat.add_zero _)⟩
    | 1, hb =>
      cases hb
      exact ⟨sz, sz, rfl, h2, h3, rfl, Nat.le_of_eq (Nat.add_zero _)⟩
    | i + 2, hb => simp [E_la] at hb
  · rcases htc with rfl | rfl
    · exact ⟨f1_aC, f1_aL, f1_a8.2⟩
    · exact ⟨f1_cC, f1_cL, f1_c8.2⟩
theorem lq_C {h : ev_H} {tc : Nat} (htc : lw_two tc) (hq : e2_idh 2 8 h = true ∧ e2_hle E_la 8 (lw_hC tc) h = true) : (fun q : ev_V × ev_H => q.1 = (11, 0, 4294967295) ∧ e2_idh 2 8 q.2 = true ∧ ∃ tc', lw_two tc' ∧ e2_hle E_la 8 (lw_hC tc') q.2 = true) ((11, 0, 4294967295), h) := ⟨rfl, hq.1, tc, htc, hq.2⟩
theorem lc_feed (hen : en_ok) (l : Launch) : lw_cC l lw_hC lw_hN E_la 123 [(11, 0, 4294967295), (11, 0, 4294967295), (11, 0, 4294967295), (11, 0, 4294967295), (11, 0, 4294967295)] := fun tc htc => by
  rcases htc with rfl | rfl
  · exact ⟨260, rs_l_feed_a, by decide, fun M hM => lp_feed_a hen l 260 (Nat.le_refl _) M hM, e2_fa (lq_C (tc := 1) (Or.inl rfl) f1_aq) (e2_fz)⟩
  · exact ⟨260, rs_l_feed_c, by decide, fun M hM => lp_feed_c hen l 260 (Nat.le_refl _) M hM, e2_fa (lq_C (tc := 17) (Or.inr rfl) f1_cq) (e2_fz)⟩
theorem lc_end (hen : en_ok) (l : Launch) : lw_cC l lw_hC lw_hN E_la 124 [(11, 0, 4294967295)] := fun tc htc => by
  rcases htc with rfl | rfl
  · exact ⟨260, rs_l_end_a, by decide, fun M hM => lp_end_a hen l 260 (Nat.le_refl _) M hM, e2_fa (lq_C (tc := 1) (Or.inl rfl) f1_aq) (e2_fz)⟩
  · exact ⟨260, rs_l_end_c, by decide, fun M hM => lp_end_c hen l 260 (Nat.le_refl _) M hM, e2_fa (lq_C (tc := 17) (Or.inr rfl) f1_cq) (e2_fz)⟩
theorem lc_meadow (hen : en_ok) (l : Launch) : lw_cC l lw_hC lw_hN E_la 125 [] := fun tc htc => by
  rcases htc with rfl | rfl
  · exact ⟨260, rs_l_meadow_a, by decide, fun M hM => lp_meadow_a hen l 260 (Nat.le_refl _) M hM, e2_fa (lq_C (tc := 1) (Or.inl rfl) f1_am0) (e2_fa (lq_C (tc := 17) (Or.inr rfl) f1_am1) (e2_fz))⟩
  · exact ⟨260, rs_l_meadow_c, by decide, fun M hM => lp_meadow_c hen l 260 (Nat.le_refl _) M hM, e2_fa (lq_C (tc := 17) (Or.inr rfl) f1_cm0) (e2_fa (lq_C (tc := 1) (Or.inl rfl) f1_cm1) (e2_fz))⟩
theorem lc_fault (hen : en_ok) (l : Launch) : lw_cC l lw_hC lw_hN E_la 126 [(11, 0, 4294967295)] := fun tc htc => by
  rcases htc with rfl | rfl
  · exact ⟨260, rs_l_fault_a, by decide, fun M hM => lp_fault_a hen l 260 (Nat.le_refl _) M hM, e2_fa (lq_C (tc := 1) (Or.inl rfl) f1_aq) (e2_fz)⟩
  · exact ⟨260, rs_l_fault_c, by decide, fun M hM => lp_fault_c hen l 260 (Nat.le_refl _) M hM, e2_fa (lq_C (tc := 17) (Or.inr rfl) f1_cq) (e2_fz)⟩
theorem lc_thing (hen : en_ok) (l : Launch) : lw_cC l lw_hC lw_hN E_la 127 [(11, 0, 4294967295)] := fun tc htc => by
  rcases htc with rfl | rfl
  · exact ⟨260, rs_l_thing_a, by decide, fun M hM => lp_thing_a hen l 260 (Nat.le_refl _) M hM, e2_fa (lq_C (tc := 1) (Or.inl rfl) f1_aq) (e2_fz)⟩
  · exact ⟨260, rs_l_thing_c, by decide, fun M hM => lp_thing_c hen l 260 (Nat.le_refl _) M hM, e2_fa (lq_C (tc := 17) (Or.inr rfl) f1_cq) (e2_fz)⟩
theorem lc_glyph (hen : en_ok) (l : Launch) : lw_cC l lw_hC lw_hN E_la 128 [(11, 0, 4294967295), (11, 0, 4294967295)] := fun tc htc => by
  rcases htc with rfl | rfl
  · exact ⟨260, rs_l_glyph_a, by decide, fun M hM => lp_glyph_a hen l 260 (Nat.le_refl _) M hM, e2_fa (lq_C (tc := 1) (Or.inl rfl) f1_aq) (e2_fz)⟩
  · exact ⟨260, rs_l_glyph_c, by decide, fun M hM => lp_glyph_c hen l 260 (Nat.le_refl _) M hM, e2_fa (lq_C (tc := 17) (Or.inr rfl) f1_cq) (e2_fz)⟩
theorem lc_plot (hen : en_ok) (l : Launch) : lw_cC l lw_hC lw_hN E_la 129 [(11, 0, 4294967295), (11, 0, 4294967295)] := fun tc htc => by
  rcases htc with rfl | rfl
  · exact ⟨260, rs_l_plot_a, by decide, fun M hM => lp_plot_a hen l 260 (Nat.le_refl _) M hM, e2_fa (lq_C (tc := 1) (Or.inl rfl) f1_aq) (e2_fz)⟩
  · exact ⟨260, rs_l_plot_c, by decide, fun M hM => lp_plot_c hen l 260 (Nat.le_refl _) M hM, e2_fa (lq_C (tc := 17) (Or.inr rfl) f1_cq) (e2_fz)⟩
theorem lc_mow (hen : en_ok) (l : Launch) : lw_cC l lw_hC lw_hN E_la 130 [(11, 0, 4294967295)] := fun tc htc => by
  rcases htc with rfl | rfl
  · exact ⟨260, rs_l_mow_a, by decide, fun M hM => lp_mow_a hen l 260 (Nat.le_refl _) M hM, e2_fa (lq_C (tc := 1) (Or.inl rfl) f1_aq) (e2_fz)⟩
  · exact ⟨260, rs_l_mow_c, by decide, fun M hM => lp_mow_c hen l 260 (Nat.le_refl _) M hM, e2_fa (lq_C (tc := 17) (Or.inr rfl) f1_cq) (e2_fz)⟩
theorem lc_sow (hen : en_ok) (l : Launch) : lw_cC l lw_hC lw_hN E_la 131 [(11, 0, 4294967295)] := fun tc htc => by
  rcases htc with rfl | rfl
  · exact ⟨260, rs_l_sow_a, by decide, fun M hM => lp_sow_a hen l 260 (Nat.le_refl _) M hM, e2_fa (lq_C (tc := 1) (Or.inl rfl) f1_aq) (e2_fz)⟩
  · exact ⟨260, rs_l_sow_c, by decide, fun M hM => lp_sow_c hen l 260 (Nat.le_refl _) M hM, e2_fa (lq_C (tc := 17) (Or.inr rfl) f1_cq) (e2_fz)⟩
theorem lc_year (hen : en_ok) (l : Launch) : lw_cC l lw_hC lw_hN E_la 132 [] := fun tc htc => by
  rcases htc with rfl | rfl
  · exact ⟨260, rs_l_year_a, by decide, fun M hM => lp_year_a hen l 260 (Nat.le_refl _) M hM, e2_fa (lq_C (tc := 1) (Or.inl rfl) f1_aq) (e2_fz)⟩
  · exact ⟨260, rs_l_year_c, by decide, fun M hM => lp_year_c hen l 260 (Nat.le_refl _) M hM, e2_fa (lq_C (tc := 17) (Or.inr rfl) f1_cq) (e2_fz)⟩
theorem lc_undo (hen : en_ok) (l : Launch) : lw_cC l lw_hC lw_hN E_la 133 [] := fun tc htc => by
  rcases htc with rfl | rfl
  · exact ⟨260, rs_l_undo_a, by decide, fun M hM => lp_undo_a hen l 260 (Nat.le_refl _) M hM, e2_fa (lq_C (tc := 1) (Or.inl rfl) f1_aq) (e2_fz)⟩
  · exact ⟨260, rs_l_undo_c, by decide, fun M hM => lp_undo_c hen l 260 (Nat.le_refl _) M hM, e2_fa (lq_C (tc := 17) (Or.inr rfl) f1_cq) (e2_fz)⟩
theorem lc_redo (hen : en_ok) (l : Launch) : lw_cC l lw_hC lw_hN E_la 134 [] := fun tc htc => by
  rcases htc with rfl | rfl
  · exact ⟨260, rs_l_redo_a, by decide, fun M hM => lp_redo_a hen l 260 (Nat.le_refl _) M hM, e2_fa (lq_C (tc := 1) (Or.inl rfl) f1_aq) (e2_fz)⟩
  · exact ⟨260, rs_l_redo_c, by decide, fun M hM => lp_redo_c hen l 260 (Nat.le_refl _) M hM, e2_fa (lq_C (tc := 17) (Or.inr rfl) f1_cq) (e2_fz)⟩
theorem lc_readings (hen : en_ok) (l : Launch) : lw_cC l lw_hC lw_hN E_la 135 [] := fun tc htc => by
  rcases htc with rfl | rfl
  · exact ⟨260, rs_l_readings_a, by decide, fun M hM => lp_readings_a hen l 260 (Nat.le_refl _) M hM, e2_fa (lq_C (tc := 1) (Or.inl rfl) f1_aq) (e2_fz)⟩
  · exact ⟨260, rs_l_readings_c, by decide, fun M hM => lp_readings_c hen l 260 (Nat.le_refl _) M hM, e2_fa (lq_C (tc := 17) (Or.inr rfl) f1_cq) (e2_fz)⟩
theorem lc_taken (hen : en_ok) (l : Launch) : lw_cC l lw_hC lw_hN E_la 136 [] := fun tc htc => by
  rcases htc with rfl | rfl
  · exact ⟨260, rs_l_taken_a, by decide, fun M hM => lp_taken_a hen l 260 (Nat.le_refl _) M hM, e2_fa (lq_C (tc := 1) (Or.inl rfl) f1_aq) (e2_fz)⟩
  · exact ⟨260, rs_l_taken_c, by decide, fun M hM => lp_taken_c hen l 260 (Nat.le_refl _) M hM, e2_fa (lq_C (tc := 17) (Or.inr rfl) f1_cq) (e2_fz)⟩
theorem lc_weight (hen : en_ok) (l : Launch) : lw_cC l lw_hC lw_hN E_la 137 [] := fun tc htc => by
  rcases htc with rfl | rfl
  · exact ⟨260, rs_l_weight_a, by decide, fun M hM => lp_weight_a hen l 260 (Nat.le_refl _) M hM, e2_fa (lq_C (tc := 1) (Or.inl rfl) f1_aq) (e2_fz)⟩
  · exact ⟨260, rs_l_weight_c, by decide, fun M hM => lp_weight_c hen l 260 (Nat.le_refl _) M hM, e2_fa (lq_C (tc := 17) (Or.inr rfl) f1_cq) (e2_fz)⟩
theorem lc_does (hen : en_ok) (l : Launch) : lw_cC l lw_hC lw_hN E_la 138 [(11, 0, 4294967295)] := fun tc htc => by
  rcases htc with rfl | rfl
  · exact ⟨260, rs_l_does_a, by decide, fun M hM => lp_does_a hen l 260 (Nat.le_refl _) M hM, e2_fa (lq_C (tc := 1) (Or.inl rfl) f1_aq) (e2_fz)⟩
  · exact ⟨260, rs_l_does_c, by decide, fun M hM => lp_does_c hen l 260 (Nat.le_refl _) M hM, e2_fa (lq_C (tc := 17) (Or.inr rfl) f1_cq) (e2_fz)⟩
theorem lc_will (hen : en_ok) (l : Launch) : lw_cC l lw_hC lw_hN E_la 139 [(11, 0, 4294967295), (11, 0, 4294967295)] := fun tc htc => by
  rcases htc with rfl | rfl
  · exact ⟨260, rs_l_will_a, by decide, fun M hM => lp_will_a hen l 260 (Nat.le_refl _) M hM, e2_fa (lq_C (tc := 1) (Or.inl rfl) f1_aq) (e2_fz)⟩
  · exact ⟨260, rs_l_will_c, by decide, fun M hM => lp_will_c hen l 260 (Nat.le_refl _) M hM, e2_fa (lq_C (tc := 17) (Or.inr rfl) f1_cq) (e2_fz)⟩
theorem lc_field (hen : en_ok) (l : Launch) : lw_cC l lw_hC lw_hN E_la 140 [(11, 0, 4294967295)] := fun tc htc => by
  rcases htc with rfl | rfl
  · exact ⟨260, rs_l_field_a, by decide, fun M hM => lp_field_a hen l 260 (Nat.le_refl _) M hM, e2_fa (lq_C (tc := 1) (Or.inl rfl) f1_aq) (e2_fz)⟩
  · exact ⟨260, rs_l_field_c, by decide, fun M hM => lp_field_c hen l 260 (Nat.le_refl _) M hM, e2_fa (lq_C (tc := 17) (Or.inr rfl) f1_cq) (e2_fz)⟩
theorem lc_harm (hen : en_ok) (l : Launch) : lw_cC l lw_hC lw_hN E_la 141 [] := fun tc htc => by
  rcases htc with rfl | rfl
  · exact ⟨260, rs_l_harm_a, by decide, fun M hM => lp_harm_a hen l 260 (Nat.le_refl _) M hM, e2_fa (lq_C (tc := 1) (Or.inl rfl) f1_aq) (e2_fz)⟩
  · exact ⟨260, rs_l_harm_c, by decide, fun M hM => lp_harm_c hen l 260 (Nat.le_refl _) M hM, e2_fa (lq_C (tc := 17) (Or.inr rfl) f1_cq) (e2_fz)⟩
theorem lc_turn (hen : en_ok) (l : Launch) : lw_cC l lw_hC lw_hN E_la 142 [(11, 0, 4294967295), (11, 0, 4294967295)] := fun tc htc => by
  rcases htc with rfl | rfl
  · exact ⟨260, rs_l_turn_a, by decide, fun M hM => lp_turn_a hen l 260 (Nat.le_refl _) M hM, e2_fa (lq_C (tc := 1) (Or.inl rfl) f1_aq) (e2_fz)⟩
  · exact ⟨260, rs_l_turn_c, by decide, fun M hM => lp_turn_c hen l 260 (Nat.le_refl _) M hM, e2_fa (lq_C (tc := 17) (Or.inr rfl) f1_cq) (e2_fz)⟩
theorem lc_plain (hen : en_ok) (l : Launch) : lw_cC l lw_hC lw_hN E_la 143 [] := fun tc htc => by
  rcases htc with rfl | rfl
  · exact ⟨260, rs_l_plain_a, by decide, fun M hM => lp_plain_a hen l 260 (Nat.le_refl _) M hM, e2_fa (lq_C (tc := 1) (Or.inl rfl) f1_aq) (e2_fz)⟩
  · exact ⟨260, rs_l_plain_c, by decide, fun M hM => lp_plain_c hen l 260 (Nat.le_refl _) M hM, e2_fa (lq_C (tc := 17) (Or.inr rfl) f1_cq) (e2_fz)⟩
theorem lc_orders (hen : en_ok) (l : Launch) : lw_cC l lw_hC lw_hN E_la 144 [(11, 0, 4294967295)] := fun tc htc => by
  rcases htc with rfl | rfl
  · exact ⟨260, rs_l_orders_a, by decide, fun M hM => lp_orders_a hen l 260 (Nat.le_refl _) M hM, e2_fa (lq_C (tc := 1) (Or.inl rfl) f1_aq) (e2_fz)⟩
  · exact ⟨260, rs_l_orders_c, by decide, fun M hM => lp_orders_c hen l 260 (Nat.le_refl _) M hM, e2_fa (lq_C (tc := 17) (Or.inr rfl) f1_cq) (e2_fz)⟩
theorem lc_write (hen : en_ok) (l : Launch) : lw_cC l lw_hC lw_hN E_la 145 [(11, 0, 4294967295), (11, 0, 4294967295), (11, 0, 4294967295)] := fun tc htc => by
  rcases htc with rfl | rfl
  · exact ⟨260, rs_l_write_a, by decide, fun M hM => lp_write_a hen l 260 (Nat.le_refl _) M hM, e2_fa (lq_C (tc := 1) (Or.inl rfl) f1_aq) (e2_fz)⟩
  · exact ⟨260, rs_l_write_c, by decide, fun M hM => lp_write_c hen l 260 (Nat.le_refl _) M hM, e2_fa (lq_C (tc := 17) (Or.inr rfl) f1_cq) (e2_fz)⟩
theorem lc_watch (hen : en_ok) (l : Launch) : lw_cC l lw_hC lw_hN E_la 146 [] := fun tc htc => by
  rcases htc with rfl | rfl
  · exact ⟨260, rs_l_watch_a, by decide, fun M hM => lp_watch_a hen l 260 (Nat.le_refl _) M hM, e2_fa (lq_C (tc := 1) (Or.inl rfl) f1_aq) (e2_fz)⟩
  · exact ⟨260, rs_l_watch_c, by decide, fun M hM => lp_watch_c hen l 260 (Nat.le_refl _) M hM, e2_fa (lq_C (tc := 17) (Or.inr rfl) f1_cq) (e2_fz)⟩
theorem lc_cows (hen : en_ok) (l : Launch) : lw_cC l lw_hC lw_hN E_la 147 [(11, 0, 4294967295), (11, 0, 4294967295)] := fun tc htc => by
  rcases htc with rfl | rfl
  · exact ⟨260, rs_l_cows_a, by decide, fun M hM => lp_cows_a hen l 260 (Nat.le_refl _) M hM, e2_fa (lq_C (tc := 1) (Or.inl rfl) f1_aq) (e2_fz)⟩
  · exact ⟨260, rs_l_cows_c, by decide, fun M hM => lp_cows_c hen l 260 (Nat.le_refl _) M hM, e2_fa (lq_C (tc := 17) (Or.inr rfl) f1_cq) (e2_fz)⟩
theorem lc_duel (hen : en_ok) (l : Launch) : lw_cC l lw_hC lw_hN E_la 148 [(11, 0, 4294967295), (11, 0, 4294967295), (11, 0, 4294967295), (11, 0, 4294967295)] := fun tc htc => by
  rcases htc with rfl | rfl
  · exact ⟨260, rs_l_duel_a, by decide, fun M hM => lp_duel_a hen l 260 (Nat.le_refl _) M hM, e2_fa (lq_C (tc := 1) (Or.inl rfl) f1_aq) (e2_fz)⟩
  · exact ⟨260, rs_l_duel_c, by decide, fun M hM => lp_duel_c hen l 260 (Nat.le_refl _) M hM, e2_fa (lq_C (tc := 17) (Or.inr rfl) f1_cq) (e2_fz)⟩
theorem lc_lies (hen : en_ok) (l : Launch) : lw_cC l lw_hC lw_hN E_la 149 [(11, 0, 4294967295)] := fun tc htc => by
  rcases htc with rfl | rfl
  · exact ⟨260, rs_l_lies_a, by decide, fun M hM => lp_lies_a hen l 260 (Nat.le_refl _) M hM, e2_fa (lq_C (tc := 1) (Or.inl rfl) f1_aq) (e2_fz)⟩
  · exact ⟨260, rs_l_lies_c, by decide, fun M hM => lp_lies_c hen l 260 (Nat.le_refl _) M hM, e2_fa (lq_C (tc := 17) (Or.inr rfl) f1_cq) (e2_fz)⟩
theorem lc_heard (hen : en_ok) (l : Launch) : lw_cC l lw_hC lw_hN E_la 150 [(11, 0, 4294967295), (11, 0, 4294967295), (11, 0, 4294967295), (11, 2147483648, 2147483649)] := fun tc htc => by
  rcases htc with rfl | rfl
  · exact ⟨260, rs_l_heard_a, by decide, fun M hM => lp_heard_a hen l 260 (Nat.le_refl _) M hM, e2_fa (lq_C (tc := 1) (Or.inl rfl) f1_aq) (e2_fz)⟩
  · exact ⟨260, rs_l_heard_c, by decide, fun M hM => lp_heard_c hen l 260 (Nat.le_refl _) M hM, e2_fa (lq_C (tc := 17) (Or.inr rfl) f1_cq) (e2_fz)⟩
theorem lc_untell (hen : en_ok) (l : Launch) : lw_cC l lw_hC lw_hN E_la 151 [(11, 0, 4294967295)] := fun tc htc => by
  rcases htc with rfl | rfl
  · exact ⟨260, rs_l_untell_a, by decide, fun M hM => lp_untell_a hen l 260 (Nat.le_refl _) M hM, e2_fa (lq_C (tc := 1) (Or.inl rfl) f1_aq) (e2_fz)⟩
  · exact ⟨260, rs_l_untell_c, by decide, fun M hM => lp_untell_c hen l 260 (Nat.le_refl _) M hM, e2_fa (lq_C (tc := 17) (Or.inr rfl) f1_cq) (e2_fz)⟩
theorem lc_fit (hen : en_ok) (l : Launch) : lw_cC l lw_hC lw_hN E_la 153 [(11, 0, 4294967295)] := fun tc htc => by
  rcases htc with rfl | rfl
  · exact ⟨260, rs_l_fit_a, by decide, fun M hM => lp_fit_a hen l 260 (Nat.le_refl _) M hM, e2_fa (lq_C (tc := 1) (Or.inl rfl) f1_aq) (e2_fz)⟩
  · exact ⟨260, rs_l_fit_c, by decide, fun M hM => lp_fit_c hen l 260 (Nat.le_refl _) M hM, e2_fa (lq_C (tc := 17) (Or.inr rfl) f1_cq) (e2_fz)⟩
theorem lc_sure (hen : en_ok) (l : Launch) : lw_cC l lw_hC lw_hN E_la 154 [(11, 0, 4294967295), (11, 0, 4294967295), (11, 0, 4294967295)] := fun tc htc => by
  rcases htc with rfl | rfl
  · exact ⟨260, rs_l_sure_a, by decide, fun M hM => lp_sure_a hen l 260 (Nat.le_refl _) M hM, e2_fa (lq_C (tc := 1) (Or.inl rfl) f1_aq) (e2_fz)⟩
  · exact ⟨260, rs_l_sure_c, by decide, fun M hM => lp_sure_c hen l 260 (Nat.le_refl _) M hM, e2_fa (lq_C (tc := 17) (Or.inr rfl) f1_cq) (e2_fz)⟩
theorem lc_ask (hen : en_ok) (l : Launch) : lw_cC l lw_hC lw_hN E_la 155 [(11, 0, 4294967295), (11, 0, 4294967295)] := fun tc htc => by
  rcases htc with rfl | rfl
  · exact ⟨260, rs_l_ask_a, by decide, fun M hM => lp_ask_a hen l 260 (Nat.le_refl _) M hM, e2_fa (lq_C (tc := 1) (Or.inl rfl) f1_aq) (e2_fz)⟩
  · exact ⟨260, rs_l_ask_c, by decide, fun M hM => lp_ask_c hen l 260 (Nat.le_refl _) M hM, e2_fa (lq_C (tc := 17) (Or.inr rfl) f1_cq) (e2_fz)⟩
theorem lc_image (hen : en_ok) (l : Launch) : lw_cC l lw_hC lw_hN E_la 156 [(11, 0, 4294967295)] := fun tc htc => by
  rcases htc with rfl | rfl
  · exact ⟨260, rs_l_image_a, by decide, fun M hM => lp_image_a hen l 260 (Nat.le_refl _) M hM, e2_fa (lq_C (tc := 1) (Or.inl rfl) f1_aq) (e2_fz)⟩
  · exact ⟨260, rs_l_image_c, by decide, fun M hM => lp_image_c hen l 260 (Nat.le_refl _) M hM, e2_fa (lq_C (tc := 17) (Or.inr rfl) f1_cq) (e2_fz)⟩
theorem lc_back (hen : en_ok) (l : Launch) : lw_cC l lw_hC lw_hN E_la 157 [(11, 0, 4294967295)] := fun tc htc => by
  rcases htc with rfl | rfl
  · exact ⟨260, rs_l_back_a, by decide, fun M hM => lp_back_a hen l 260 (Nat.le_refl _) M hM, e2_fa (lq_C (tc := 1) (Or.inl rfl) f1_aq) (e2_fz)⟩
  · exact ⟨260, rs_l_back_c, by decide, fun M hM => lp_back_c hen l 260 (Nat.le_refl _) M hM, e2_fa (lq_C (tc := 17) (Or.inr rfl) f1_cq) (e2_fz)⟩
theorem lc_about (hen : en_ok) (l : Launch) : lw_cC l lw_hC lw_hN E_la 158 [(11, 0, 4294967295)] := fun tc htc => by
  rcases htc with rfl | rfl
  · exact ⟨260, rs_l_about_a, by decide, fun M hM => lp_about_a hen l 260 (Nat.le_refl _) M hM, e2_fa (lq_C (tc := 1) (Or.inl rfl) f1_aq) (e2_fz)⟩
  · exact ⟨260, rs_l_about_c, by decide, fun M hM => lp_about_c hen l 260 (Nat.le_refl _) M hM, e2_fa (lq_C (tc := 17) (Or.inr rfl) f1_cq) (e2_fz)⟩
theorem lw_hcc (hen : en_ok) (l : Launch) : ∀ q ∈ lw_lC, lw_cC l lw_hC lw_hN E_la q.1 q.2 :=
  e2_fa (lc_feed hen l) (e2_fa (lc_end hen l) (e2_fa (lc_meadow hen l) (e2_fa (lc_fault hen l) (e2_fa (lc_thing hen l) (e2_fa (lc_glyph hen l) (e2_fa (lc_plot hen l) (e2_fa (lc_mow hen l) (e2_fa (lc_sow hen l) (e2_fa (lc_year hen l) (e2_fa (lc_undo hen l) (e2_fa (lc_redo hen l) (e2_fa (lc_readings hen l) (e2_fa (lc_taken hen l) (e2_fa (lc_weight hen l) (e2_fa (lc_does hen l) (e2_fa (lc_will hen l) (e2_fa (lc_field hen l) (e2_fa (lc_harm hen l) (e2_fa (lc_turn hen l) (e2_fa (lc_plain hen l) (e2_fa (lc_orders hen l) (e2_fa (lc_write hen l) (e2_fa (lc_watch hen l) (e2_fa (lc_cows hen l) (e2_fa (lc_duel hen l) (e2_fa (lc_lies hen l) (e2_fa (lc_heard hen l) (e2_fa (lc_untell hen l) (e2_fa (lc_fit hen l) (e2_fa (lc_sure hen l) (e2_fa (lc_ask hen l) (e2_fa (lc_image hen l) (e2_fa (lc_back hen l) (e2_fa (lc_about hen l) (e2_fz)))))))))))))))))))))))))))))))))))
