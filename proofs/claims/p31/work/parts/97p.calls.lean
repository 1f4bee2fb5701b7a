/-! THE CALLS OF THE REFERENCE, each -/
theorem lr_feed (hen : en_ok) (l : Launch) : lw_cR l lw_hR lw_hM E_lb 289 [(11, 0, 4294967295), (11, 0, 4294967295), (11, 0, 4294967295), (11, 0, 4294967295), (11, 0, 4294967295)] := lw_8 (P := fun b m => ∃ d rs, d ≤ 1000 ∧ (∀ M, e2_MT[289]? = some M → e2_Met l M d ((2, 83, 0) :: [(11, 0, 4294967295), (11, 0, 4294967295), (11, 0, 4294967295), (11, 0, 4294967295), (11, 0, 4294967295)]) E_lb (lw_hM b m) (e2_fin rs)) ∧ ∀ q ∈ rs, lw_qR b (lw_hR b m) q)
  ⟨260, rs_l_feed_b0, by decide, fun M hM => lp_feed_b0 hen l 260 (Nat.le_refl _) M hM, e2_fa gq_b0 (e2_fz)⟩
  ⟨260, rs_l_feed_b1, by decide, fun M hM => lp_feed_b1 hen l 260 (Nat.le_refl _) M hM, e2_fa gq_b1 (e2_fz)⟩
  ⟨260, rs_l_feed_b2, by decide, fun M hM => lp_feed_b2 hen l 260 (Nat.le_refl _) M hM, e2_fa gq_b2 (e2_fz)⟩
  ⟨260, rs_l_feed_b3, by decide, fun M hM => lp_feed_b3 hen l 260 (Nat.le_refl _) M hM, e2_fa gq_b3 (e2_fz)⟩
  ⟨260, rs_l_feed_d0, by decide, fun M hM => lp_feed_d0 hen l 260 (Nat.le_refl _) M hM, e2_fa gq_d0 (e2_fz)⟩
  ⟨260, rs_l_feed_d1, by decide, fun M hM => lp_feed_d1 hen l 260 (Nat.le_refl _) M hM, e2_fa gq_d1 (e2_fz)⟩
  ⟨260, rs_l_feed_d2, by decide, fun M hM => lp_feed_d2 hen l 260 (Nat.le_refl _) M hM, e2_fa gq_d2 (e2_fz)⟩
  ⟨260, rs_l_feed_d3, by decide, fun M hM => lp_feed_d3 hen l 260 (Nat.le_refl _) M hM, e2_fa gq_d3 (e2_fz)⟩
theorem lr_end (hen : en_ok) (l : Launch) : lw_cR l lw_hR lw_hM E_lb 290 [(11, 0, 4294967295)] := lw_8 (P := fun b m => ∃ d rs, d ≤ 1000 ∧ (∀ M, e2_MT[290]? = some M → e2_Met l M d ((2, 83, 0) :: [(11, 0, 4294967295)]) E_lb (lw_hM b m) (e2_fin rs)) ∧ ∀ q ∈ rs, lw_qR b (lw_hR b m) q)
  ⟨260, rs_l_end_b0, by decide, fun M hM => lp_end_b0 hen l 260 (Nat.le_refl _) M hM, e2_fa gq_b0 (e2_fz)⟩
  ⟨260, rs_l_end_b1, by decide, fun M hM => lp_end_b1 hen l 260 (Nat.le_refl _) M hM, e2_fa gq_b1 (e2_fz)⟩
  ⟨260, rs_l_end_b2, by decide, fun M hM => lp_end_b2 hen l 260 (Nat.le_refl _) M hM, e2_fa gq_b2 (e2_fz)⟩
  ⟨260, rs_l_end_b3, by decide, fun M hM => lp_end_b3 hen l 260 (Nat.le_refl _) M hM, e2_fa gq_b3 (e2_fz)⟩
  ⟨260, rs_l_end_d0, by decide, fun M hM => lp_end_d0 hen l 260 (Nat.le_refl _) M hM, e2_fa gq_d0 (e2_fz)⟩
  ⟨260, rs_l_end_d1, by decide, fun M hM => lp_end_d1 hen l 260 (Nat.le_refl _) M hM, e2_fa gq_d1 (e2_fz)⟩
  ⟨260, rs_l_end_d2, by decide, fun M hM => lp_end_d2 hen l 260 (Nat.le_refl _) M hM, e2_fa gq_d2 (e2_fz)⟩
  ⟨260, rs_l_end_d3, by decide, fun M hM => lp_end_d3 hen l 260 (Nat.le_refl _) M hM, e2_fa gq_d3 (e2_fz)⟩
theorem lr_fault (hen : en_ok) (l : Launch) : lw_cR l lw_hR lw_hM E_lb 211 [(11, 0, 4294967295)] := lw_8 (P := fun b m => ∃ d rs, d ≤ 1000 ∧ (∀ M, e2_MT[211]? = some M → e2_Met l M d ((2, 83, 0) :: [(11, 0, 4294967295)]) E_lb (lw_hM b m) (e2_fin rs)) ∧ ∀ q ∈ rs, lw_qR b (lw_hR b m) q)
  ⟨260, rs_l_fault_b0, by decide, fun M hM => lp_fault_b0 hen l 260 (Nat.le_refl _) M hM, e2_fa gq_b0 (e2_fz)⟩
  ⟨260, rs_l_fault_b1, by decide, fun M hM => lp_fault_b1 hen l 260 (Nat.le_refl _) M hM, e2_fa gq_b1 (e2_fz)⟩
  ⟨260, rs_l_fault_b2, by decide, fun M hM => lp_fault_b2 hen l 260 (Nat.le_refl _) M hM, e2_fa gq_b2 (e2_fz)⟩
  ⟨260, rs_l_fault_b3, by decide, fun M hM => lp_fault_b3 hen l 260 (Nat.le_refl _) M hM, e2_fa gq_b3 (e2_fz)⟩
  ⟨260, rs_l_fault_d0, by decide, fun M hM => lp_fault_d0 hen l 260 (Nat.le_refl _) M hM, e2_fa gq_d0 (e2_fz)⟩
  ⟨260, rs_l_fault_d1, by decide, fun M hM => lp_fault_d1 hen l 260 (Nat.le_refl _) M hM, e2_fa gq_d1 (e2_fz)⟩
  ⟨260, rs_l_fault_d2, by decide, fun M hM => lp_fault_d2 hen l 260 (Nat.le_refl _) M hM, e2_fa gq_d2 (e2_fz)⟩
  ⟨260, rs_l_fault_d3, by decide, fun M hM => lp_fault_d3 hen l 260 (Nat.le_refl _) M hM, e2_fa gq_d3 (e2_fz)⟩
theorem lr_thing (hen : en_ok) (l : Launch) : lw_cR l lw_hR lw_hM E_lb 236 [(11, 0, 4294967295)] := lw_8 (P := fun b m => ∃ d rs, d ≤ 1000 ∧ (∀ M, e2_MT[236]? = some M → e2_Met l M d ((2, 83, 0) :: [(11, 0, 4294967295)]) E_lb (lw_hM b m) (e2_fin rs)) ∧ ∀ q ∈ rs, lw_qR b (lw_hR b m) q)
  ⟨260, rs_l_thing_b0, by decide, fun M hM => lp_thing_b0 hen l 260 (Nat.le_refl _) M hM, e2_fa gq_b0 (e2_fz)⟩
  ⟨260, rs_l_thing_b1, by decide, fun M hM => lp_thing_b1 hen l 260 (Nat.le_refl _) M hM, e2_fa gq_b1 (e2_fz)⟩
  ⟨260, rs_l_thing_b2, by decide, fun M hM => lp_thing_b2 hen l 260 (Nat.le_refl _) M hM, e2_fa gq_b2 (e2_fz)⟩
  ⟨260, rs_l_thing_b3, by decide, fun M hM => lp_thing_b3 hen l 260 (Nat.le_refl _) M hM, e2_fa gq_b3 (e2_fz)⟩
  ⟨260, rs_l_thing_d0, by decide, fun M hM => lp_thing_d0 hen l 260 (Nat.le_refl _) M hM, e2_fa gq_d0 (e2_fz)⟩
  ⟨260, rs_l_thing_d1, by decide, fun M hM => lp_thing_d1 hen l 260 (Nat.le_refl _) M hM, e2_fa gq_d1 (e2_fz)⟩
  ⟨260, rs_l_thing_d2, by decide, fun M hM => lp_thing_d2 hen l 260 (Nat.le_refl _) M hM, e2_fa gq_d2 (e2_fz)⟩
  ⟨260, rs_l_thing_d3, by decide, fun M hM => lp_thing_d3 hen l 260 (Nat.le_refl _) M hM, e2_fa gq_d3 (e2_fz)⟩
theorem lr_glyph (hen : en_ok) (l : Launch) : lw_cR l lw_hR lw_hM E_lb 237 [(11, 0, 4294967295), (11, 0, 4294967295)] := lw_8 (P := fun b m => ∃ d rs, d ≤ 1000 ∧ (∀ M, e2_MT[237]? = some M → e2_Met l M d ((2, 83, 0) :: [(11, 0, 4294967295), (11, 0, 4294967295)]) E_lb (lw_hM b m) (e2_fin rs)) ∧ ∀ q ∈ rs, lw_qR b (lw_hR b m) q)
  ⟨260, rs_l_glyph_b0, by decide, fun M hM => lp_glyph_b0 hen l 260 (Nat.le_refl _) M hM, e2_fa gq_b0 (e2_fz)⟩
  ⟨260, rs_l_glyph_b1, by decide, fun M hM => lp_glyph_b1 hen l 260 (Nat.le_refl _) M hM, e2_fa gq_b1 (e2_fz)⟩
  ⟨260, rs_l_glyph_b2, by decide, fun M hM => lp_glyph_b2 hen l 260 (Nat.le_refl _) M hM, e2_fa gq_b2 (e2_fz)⟩
  ⟨260, rs_l_glyph_b3, by decide, fun M hM => lp_glyph_b3 hen l 260 (Nat.le_refl _) M hM, e2_fa gq_b3 (e2_fz)⟩
  ⟨260, rs_l_glyph_d0, by decide, fun M hM => lp_glyph_d0 hen l 260 (Nat.le_refl _) M hM, e2_fa gq_d0 (e2_fz)⟩
  ⟨260, rs_l_glyph_d1, by decide, fun M hM => lp_glyph_d1 hen l 260 (Nat.le_refl _) M hM, e2_fa gq_d1 (e2_fz)⟩
  ⟨260, rs_l_glyph_d2, by decide, fun M hM => lp_glyph_d2 hen l 260 (Nat.le_refl _) M hM, e2_fa gq_d2 (e2_fz)⟩
  ⟨260, rs_l_glyph_d3, by decide, fun M hM => lp_glyph_d3 hen l 260 (Nat.le_refl _) M hM, e2_fa gq_d3 (e2_fz)⟩
theorem lr_plot (hen : en_ok) (l : Launch) : lw_cR l lw_hR lw_hM E_lb 240 [(11, 0, 4294967295), (11, 0, 4294967295)] := lw_8 (P := fun b m => ∃ d rs, d ≤ 1000 ∧ (∀ M, e2_MT[240]? = some M → e2_Met l M d ((2, 83, 0) :: [(11, 0, 4294967295), (11, 0, 4294967295)]) E_lb (lw_hM b m) (e2_fin rs)) ∧ ∀ q ∈ rs, lw_qR b (lw_hR b m) q)
  ⟨260, rs_l_plot_b0, by decide, fun M hM => lp_plot_b0 hen l 260 (Nat.le_refl _) M hM, e2_fa gq_b0 (e2_fz)⟩
  ⟨260, rs_l_plot_b1, by decide, fun M hM => lp_plot_b1 hen l 260 (Nat.le_refl _) M hM, e2_fa gq_b1 (e2_fz)⟩
  ⟨260, rs_l_plot_b2, by decide, fun M hM => lp_plot_b2 hen l 260 (Nat.le_refl _) M hM, e2_fa gq_b2 (e2_fz)⟩
  ⟨260, rs_l_plot_b3, by decide, fun M hM => lp_plot_b3 hen l 260 (Nat.le_refl _) M hM, e2_fa gq_b3 (e2_fz)⟩
  ⟨260, rs_l_plot_d0, by decide, fun M hM => lp_plot_d0 hen l 260 (Nat.le_refl _) M hM, e2_fa gq_d0 (e2_fz)⟩
  ⟨260, rs_l_plot_d1, by decide, fun M hM => lp_plot_d1 hen l 260 (Nat.le_refl _) M hM, e2_fa gq_d1 (e2_fz)⟩
  ⟨260, rs_l_plot_d2, by decide, fun M hM => lp_plot_d2 hen l 260 (Nat.le_refl _) M hM, e2_fa gq_d2 (e2_fz)⟩
  ⟨260, rs_l_plot_d3, by decide, fun M hM => lp_plot_d3 hen l 260 (Nat.le_refl _) M hM, e2_fa gq_d3 (e2_fz)⟩
theorem lr_mow (hen : en_ok) (l : Launch) : lw_cR l lw_hR lw_hM E_lb 243 [(11, 0, 4294967295)] := lw_8 (P := fun b m => ∃ d rs, d ≤ 1000 ∧ (∀ M, e2_MT[243]? = some M → e2_Met l M d ((2, 83, 0) :: [(11, 0, 4294967295)]) E_lb (lw_hM b m) (e2_fin rs)) ∧ ∀ q ∈ rs, lw_qR b (lw_hR b m) q)
  ⟨260, rs_l_mow_b0, by decide, fun M hM => lp_mow_b0 hen l 260 (Nat.le_refl _) M hM, e2_fa gq_b0 (e2_fa gq_b0k (e2_fz))⟩
  ⟨260, rs_l_mow_b1, by decide, fun M hM => lp_mow_b1 hen l 260 (Nat.le_refl _) M hM, e2_fa gq_b1 (e2_fa gq_b1k (e2_fz))⟩
  ⟨260, rs_l_mow_b2, by decide, fun M hM => lp_mow_b2 hen l 260 (Nat.le_refl _) M hM, e2_fa gq_b2 (e2_fa gq_b2k (e2_fz))⟩
  ⟨260, rs_l_mow_b3, by decide, fun M hM => lp_mow_b3 hen l 260 (Nat.le_refl _) M hM, e2_fa gq_b3 (e2_fa gq_b3k (e2_fz))⟩
  ⟨260, rs_l_mow_d0, by decide, fun M hM => lp_mow_d0 hen l 260 (Nat.le_refl _) M hM, e2_fa gq_d0 (e2_fa gq_d0k (e2_fz))⟩
  ⟨260, rs_l_mow_d1, by decide, fun M hM => lp_mow_d1 hen l 260 (Nat.le_refl _) M hM, e2_fa gq_d1 (e2_fa gq_d1k (e2_fz))⟩
  ⟨260, rs_l_mow_d2, by decide, fun M hM => lp_mow_d2 hen l 260 (Nat.le_refl _) M hM, e2_fa gq_d2 (e2_fa gq_d2k (e2_fz))⟩
  ⟨260, rs_l_mow_d3, by decide, fun M hM => lp_mow_d3 hen l 260 (Nat.le_refl _) M hM, e2_fa gq_d3 (e2_fa gq_d3k (e2_fz))⟩
theorem lr_sow (hen : en_ok) (l : Launch) : lw_cR l lw_hR lw_hM E_lb 244 [(11, 0, 4294967295)] := lw_8 (P := fun b m => ∃ d rs, d ≤ 1000 ∧ (∀ M, e2_MT[244]? = some M → e2_Met l M d ((2, 83, 0) :: [(11, 0, 4294967295)]) E_lb (lw_hM b m) (e2_fin rs)) ∧ ∀ q ∈ rs, lw_qR b (lw_hR b m) q)
  ⟨260, rs_l_sow_b0, by decide, fun M hM => lp_sow_b0 hen l 260 (Nat.le_refl _) M hM, e2_fa gq_b0 (e2_fa gq_b0k (e2_fz))⟩
  ⟨260, rs_l_sow_b1, by decide, fun M hM => lp_sow_b1 hen l 260 (Nat.le_refl _) M hM, e2_fa gq_b1 (e2_fa gq_b1k (e2_fz))⟩
  ⟨260, rs_l_sow_b2, by decide, fun M hM => lp_sow_b2 hen l 260 (Nat.le_refl _) M hM, e2_fa gq_b2 (e2_fa gq_b2k (e2_fz))⟩
  ⟨260, rs_l_sow_b3, by decide, fun M hM => lp_sow_b3 hen l 260 (Nat.le_refl _) M hM, e2_fa gq_b3 (e2_fa gq_b3k (e2_fz))⟩
  ⟨260, rs_l_sow_d0, by decide, fun M hM => lp_sow_d0 hen l 260 (Nat.le_refl _) M hM, e2_fa gq_d0 (e2_fa gq_d0k (e2_fz))⟩
  ⟨260, rs_l_sow_d1, by decide, fun M hM => lp_sow_d1 hen l 260 (Nat.le_refl _) M hM, e2_fa gq_d1 (e2_fa gq_d1k (e2_fz))⟩
  ⟨260, rs_l_sow_d2, by decide, fun M hM => lp_sow_d2 hen l 260 (Nat.le_refl _) M hM, e2_fa gq_d2 (e2_fa gq_d2k (e2_fz))⟩
  ⟨260, rs_l_sow_d3, by decide, fun M hM => lp_sow_d3 hen l 260 (Nat.le_refl _) M hM, e2_fa gq_d3 (e2_fa gq_d3k (e2_fz))⟩
theorem lr_year (hen : en_ok) (l : Launch) : lw_cR l lw_hR lw_hM E_lb 246 [] := lw_8 (P := fun b m => ∃ d rs, d ≤ 1000 ∧ (∀ M, e2_MT[246]? = some M → e2_Met l M d ((2, 83, 0) :: []) E_lb (lw_hM b m) (e2_fin rs)) ∧ ∀ q ∈ rs, lw_qR b (lw_hR b m) q)
  ⟨260, rs_l_year_b0, by decide, fun M hM => lp_year_b0 hen l 260 (Nat.le_refl _) M hM, e2_fa gq_b0 (e2_fa gq_b0k (e2_fz))⟩
  ⟨260, rs_l_year_b1, by decide, fun M hM => lp_year_b1 hen l 260 (Nat.le_refl _) M hM, e2_fa gq_b1 (e2_fa gq_b1k (e2_fz))⟩
  ⟨260, rs_l_year_b2, by decide, fun M hM => lp_year_b2 hen l 260 (Nat.le_refl _) M hM, e2_fa gq_b2 (e2_fa gq_b2k (e2_fz))⟩
  ⟨260, rs_l_year_b3, by decide, fun M hM => lp_year_b3 hen l 260 (Nat.le_refl _) M hM, e2_fa gq_b3 (e2_fa gq_b3k (e2_fz))⟩
  ⟨260, rs_l_year_d0, by decide, fun M hM => lp_year_d0 hen l 260 (Nat.le_refl _) M hM, e2_fa gq_d0 (e2_fa gq_d0k (e2_fz))⟩
  ⟨260, rs_l_year_d1, by decide, fun M hM => lp_year_d1 hen l 260 (Nat.le_refl _) M hM, e2_fa gq_d1 (e2_fa gq_d1k (e2_fz))⟩
  ⟨260, rs_l_year_d2, by decide, fun M hM => lp_year_d2 hen l 260 (Nat.le_refl _) M hM, e2_fa gq_d2 (e2_fa gq_d2k (e2_fz))⟩
  ⟨260, rs_l_year_d3, by decide, fun M hM => lp_year_d3 hen l 260 (Nat.le_refl _) M hM, e2_fa gq_d3 (e2_fa gq_d3k (e2_fz))⟩
theorem lr_readings (hen : en_ok) (l : Launch) : lw_cR l lw_hR lw_hM E_lb 249 [] := lw_8 (P := fun b m => ∃ d rs, d ≤ 1000 ∧ (∀ M, e2_MT[249]? = some M → e2_Met l M d ((2, 83, 0) :: []) E_lb (lw_hM b m) (e2_fin rs)) ∧ ∀ q ∈ rs, lw_qR b (lw_hR b m) q)
  ⟨260, rs_l_readings_b0, by decide, fun M hM => lp_readings_b0 hen l 260 (Nat.le_refl _) M hM, e2_fa gq_b0 (e2_fz)⟩
  ⟨260, rs_l_readings_b1, by decide, fun M hM => lp_readings_b1 hen l 260 (Nat.le_refl _) M hM, e2_fa gq_b1 (e2_fz)⟩
  ⟨260, rs_l_readings_b2, by decide, fun M hM => lp_readings_b2 hen l 260 (Nat.le_refl _) M hM, e2_fa gq_b2 (e2_fz)⟩
  ⟨260, rs_l_readings_b3, by decide, fun M hM => lp_readings_b3 hen l 260 (Nat.le_refl _) M hM, e2_fa gq_b3 (e2_fz)⟩
  ⟨260, rs_l_readings_d0, by decide, fun M hM => lp_readings_d0 hen l 260 (Nat.le_refl _) M hM, e2_fa gq_d0 (e2_fz)⟩
  ⟨260, rs_l_readings_d1, by decide, fun M hM => lp_readings_d1 hen l 260 (Nat.le_refl _) M hM, e2_fa gq_d1 (e2_fz)⟩
  ⟨260, rs_l_readings_d2, by decide, fun M hM => lp_readings_d2 hen l 260 (Nat.le_refl _) M hM, e2_fa gq_d2 (e2_fz)⟩
  ⟨260, rs_l_readings_d3, by decide, fun M hM => lp_readings_d3 hen l 260 (Nat.le_refl _) M hM, e2_fa gq_d3 (e2_fz)⟩
theorem lr_taken (hen : en_ok) (l : Launch) : lw_cR l lw_hR lw_hM E_lb 251 [] := lw_8 (P := fun b m => ∃ d rs, d ≤ 1000 ∧ (∀ M, e2_MT[251]? = some M → e2_Met l M d ((2, 83, 0) :: []) E_lb (lw_hM b m) (e2_fin rs)) ∧ ∀ q ∈ rs, lw_qR b (lw_hR b m) q)
  ⟨260, rs_l_taken_b0, by decide, fun M hM => lp_taken_b0 hen l 260 (Nat.le_refl _) M hM, e2_fa gq_b0 (e2_fz)⟩
  ⟨260, rs_l_taken_b1, by decide, fun M hM => lp_taken_b1 hen l 260 (Nat.le_refl _) M hM, e2_fa gq_b1 (e2_fz)⟩
  ⟨260, rs_l_taken_b2, by decide, fun M hM => lp_taken_b2 hen l 260 (Nat.le_refl _) M hM, e2_fa gq_b2 (e2_fz)⟩
  ⟨260, rs_l_taken_b3, by decide, fun M hM => lp_taken_b3 hen l 260 (Nat.le_refl _) M hM, e2_fa gq_b3 (e2_fz)⟩
  ⟨260, rs_l_taken_d0, by decide, fun M hM => lp_taken_d0 hen l 260 (Nat.le_refl _) M hM, e2_fa gq_d0 (e2_fz)⟩
  ⟨260, rs_l_taken_d1, by decide, fun M hM => lp_taken_d1 hen l 260 (Nat.le_refl _) M hM, e2_fa gq_d1 (e2_fz)⟩
  ⟨260, rs_l_taken_d2, by decide, fun M hM => lp_taken_d2 hen l 260 (Nat.le_refl _) M hM, e2_fa gq_d2 (e2_fz)⟩
  ⟨260, rs_l_taken_d3, by decide, fun M hM => lp_taken_d3 hen l 260 (Nat.le_refl _) M hM, e2_fa gq_d3 (e2_fz)⟩
theorem lr_weight (hen : en_ok) (l : Launch) : lw_cR l lw_hR lw_hM E_lb 252 [] := lw_8 (P := fun b m => ∃ d rs, d ≤ 1000 ∧ (∀ M, e2_MT[252]? = some M → e2_Met l M d ((2, 83, 0) :: []) E_lb (lw_hM b m) (e2_fin rs)) ∧ ∀ q ∈ rs, lw_qR b (lw_hR b m) q)
  ⟨260, rs_l_weight_b0, by decide, fun M hM => lp_weight_b0 hen l 260 (Nat.le_refl _) M hM, e2_fa gq_b0 (e2_fz)⟩
  ⟨260, rs_l_weight_b1, by decide, fun M hM => lp_weight_b1 hen l 260 (Nat.le_refl _) M hM, e2_fa gq_b1 (e2_fz)⟩
  ⟨260, rs_l_weight_b2, by decide, fun M hM => lp_weight_b2 hen l 260 (Nat.le_refl _) M hM, e2_fa gq_b2 (e2_fz)⟩
  ⟨260, rs_l_weight_b3, by decide, fun M hM => lp_weight_b3 hen l 260 (Nat.le_refl _) M hM, e2_fa gq_b3 (e2_fz)⟩
  ⟨260, rs_l_weight_d0, by decide, fun M hM => lp_weight_d0 hen l 260 (Nat.le_refl _) M hM, e2_fa gq_d0 (e2_fz)⟩
  ⟨260, rs_l_weight_d1, by decide, fun M hM => lp_weight_d1 hen l 260 (Nat.le_refl _) M hM, e2_fa gq_d1 (e2_fz)⟩
  ⟨260, rs_l_weight_d2, by decide, fun M hM => lp_weight_d2 hen l 260 (Nat.le_refl _) M hM, e2_fa gq_d2 (e2_fz)⟩
  ⟨260, rs_l_weight_d3, by decide, fun M hM => lp_weight_d3 hen l 260 (Nat.le_refl _) M hM, e2_fa gq_d3 (e2_fz)⟩
theorem lr_does (hen : en_ok) (l : Launch) : lw_cR l lw_hR lw_hM E_lb 253 [(11, 0, 4294967295)] := lw_8 (P := fun b m => ∃ d rs, d ≤ 1000 ∧ (∀ M, e2_MT[253]? = some M → e2_Met l M d ((2, 83, 0) :: [(11, 0, 4294967295)]) E_lb (lw_hM b m) (e2_fin rs)) ∧ ∀ q ∈ rs, lw_qR b (lw_hR b m) q)
  ⟨260, rs_l_does_b0, by decide, fun M hM => lp_does_b0 hen l 260 (Nat.le_refl _) M hM, e2_fa gq_b0 (e2_fz)⟩
  ⟨260, rs_l_does_b1, by decide, fun M hM => lp_does_b1 hen l 260 (Nat.le_refl _) M hM, e2_fa gq_b1 (e2_fz)⟩
  ⟨260, rs_l_does_b2, by decide, fun M hM => lp_does_b2 hen l 260 (Nat.le_refl _) M hM, e2_fa gq_b2 (e2_fz)⟩
  ⟨260, rs_l_does_b3, by decide, fun M hM => lp_does_b3 hen l 260 (Nat.le_refl _) M hM, e2_fa gq_b3 (e2_fz)⟩
  ⟨260, rs_l_does_d0, by decide, fun M hM => lp_does_d0 hen l 260 (Nat.le_refl _) M hM, e2_fa gq_d0 (e2_fz)⟩
  ⟨260, rs_l_does_d1, by decide, fun M hM => lp_does_d1 hen l 260 (Nat.le_refl _) M hM, e2_fa gq_d1 (e2_fz)⟩
  ⟨260, rs_l_does_d2, by decide, fun M hM => lp_does_d2 hen l 260 (Nat.le_refl _) M hM, e2_fa gq_d2 (e2_fz)⟩
  ⟨260, rs_l_does_d3, by decide, fun M hM => lp_does_d3 hen l 260 (Nat.le_refl _) M hM, e2_fa gq_d3 (e2_fz)⟩
theorem lr_will (hen : en_ok) (l : Launch) : lw_cR l lw_hR lw_hM E_lb 256 [(11, 0, 4294967295), (11, 0, 4294967295)] := lw_8 (P := fun b m => ∃ d rs, d ≤ 1000 ∧ (∀ M, e2_MT[256]? = some M → e2_Met l M d ((2, 83, 0) :: [(11, 0, 4294967295), (11, 0, 4294967295)]) E_lb (lw_hM b m) (e2_fin rs)) ∧ ∀ q ∈ rs, lw_qR b (lw_hR b m) q)
  ⟨260, rs_l_will_b0, by decide, fun M hM => lp_will_b0 hen l 260 (Nat.le_refl _) M hM, e2_fa gq_b0 (e2_fz)⟩
  ⟨260, rs_l_will_b1, by decide, fun M hM => lp_will_b1 hen l 260 (Nat.le_refl _) M hM, e2_fa gq_b1 (e2_fz)⟩
  ⟨260, rs_l_will_b2, by decide, fun M hM => lp_will_b2 hen l 260 (Nat.le_refl _) M hM, e2_fa gq_b2 (e2_fz)⟩
  ⟨260, rs_l_will_b3, by decide, fun M hM => lp_will_b3 hen l 260 (Nat.le_refl _) M hM, e2_fa gq_b3 (e2_fz)⟩
  ⟨260, rs_l_will_d0, by decide, fun M hM => lp_will_d0 hen l 260 (Nat.le_refl _) M hM, e2_fa gq_d0 (e2_fz)⟩
  ⟨260, rs_l_will_d1, by decide, fun M hM => lp_will_d1 hen l 260 (Nat.le_refl _) M hM, e2_fa gq_d1 (e2_fz)⟩
  ⟨260, rs_l_will_d2, by decide, fun M hM => lp_will_d2 hen l 260 (Nat.le_refl _) M hM, e2_fa gq_d2 (e2_fz)⟩
  ⟨260, rs_l_will_d3, by decide, fun M hM => lp_will_d3 hen l 260 (Nat.le_refl _) M hM, e2_fa gq_d3 (e2_fz)⟩
theorem lr_field (hen : en_ok) (l : Launch) : lw_cR l lw_hR lw_hM E_lb 257 [(11, 0, 4294967295)] := lw_8 (P := fun b m => ∃ d rs, d ≤ 1000 ∧ (∀ M, e2_MT[257]? = some M → e2_Met l M d ((2, 83, 0) :: [(11, 0, 4294967295)]) E_lb (lw_hM b m) (e2_fin rs)) ∧ ∀ q ∈ rs, lw_qR b (lw_hR b m) q)
  ⟨260, rs_l_field_b0, by decide, fun M hM => lp_field_b0 hen l 260 (Nat.le_refl _) M hM, e2_fa gq_b0 (e2_fz)⟩
  ⟨260, rs_l_field_b1, by decide, fun M hM => lp_field_b1 hen l 260 (Nat.le_refl _) M hM, e2_fa gq_b1 (e2_fz)⟩
  ⟨260, rs_l_field_b2, by decide, fun M hM => lp_field_b2 hen l 260 (Nat.le_refl _) M hM, e2_fa gq_b2 (e2_fz)⟩
  ⟨260, rs_l_field_b3, by decide, fun M hM => lp_field_b3 hen l 260 (Nat.le_refl _) M hM, e2_fa gq_b3 (e2_fz)⟩
  ⟨260, rs_l_field_d0, by decide, fun M hM => lp_field_d0 hen l 260 (Nat.le_refl _) M hM, e2_fa gq_d0 (e2_fz)⟩
  ⟨260, rs_l_field_d1, by decide, fun M hM => lp_field_d1 hen l 260 (Nat.le_refl _) M hM, e2_fa gq_d1 (e2_fz)⟩
  ⟨260, rs_l_field_d2, by decide, fun M hM => lp_field_d2 hen l 260 (Nat.le_refl _) M hM, e2_fa gq_d2 (e2_fz)⟩
  ⟨260, rs_l_field_d3, by decide, fun M hM => lp_field_d3 hen l 260 (Nat.le_refl _) M hM, e2_fa gq_d3 (e2_fz)⟩
theorem lr_harm (hen : en_ok) (l : Launch) : lw_cR l lw_hR lw_hM E_lb 258 [] := lw_8 (P := fun b m => ∃ d rs, d ≤ 1000 ∧ (∀ M, e2_MT[258]? = some M → e2_Met l M d ((2, 83, 0) :: []) E_lb (lw_hM b m) (e2_fin rs)) ∧ ∀ q ∈ rs, lw_qR b (lw_hR b m) q)
  ⟨260, rs_l_harm_b0, by decide, fun M hM => lp_harm_b0 hen l 260 (Nat.le_refl _) M hM, e2_fa gq_b0 (e2_fz)⟩
  ⟨260, rs_l_harm_b1, by decide, fun M hM => lp_harm_b1 hen l 260 (Nat.le_refl _) M hM, e2_fa gq_b1 (e2_fz)⟩
  ⟨260, rs_l_harm_b2, by decide, fun M hM => lp_harm_b2 hen l 260 (Nat.le_refl _) M hM, e2_fa gq_b2 (e2_fz)⟩
  ⟨260, rs_l_harm_b3, by decide, fun M hM => lp_harm_b3 hen l 260 (Nat.le_refl _) M hM, e2_fa gq_b3 (e2_fz)⟩
  ⟨260, rs_l_harm_d0, by decide, fun M hM => lp_harm_d0 hen l 260 (Nat.le_refl _) M hM, e2_fa gq_d0 (e2_fz)⟩
  ⟨260, rs_l_harm_d1, by decide, fun M hM => lp_harm_d1 hen l 260 (Nat.le_refl _) M hM, e2_fa gq_d1 (e2_fz)⟩
  ⟨260, rs_l_harm_d2, by decide, fun M hM => lp_harm_d2 hen l 260 (Nat.le_refl _) M hM, e2_fa gq_d2 (e2_fz)⟩
  ⟨260, rs_l_harm_d3, by decide, fun M hM => lp_harm_d3 hen l 260 (Nat.le_refl _) M hM, e2_fa gq_d3 (e2_fz)⟩
theorem lr_turn (hen : en_ok) (l : Launch) : lw_cR l lw_hR lw_hM E_lb 261 [(11, 0, 4294967295), (11, 0, 4294967295)] := lw_8 (P := fun b m => ∃ d rs, d ≤ 1000 ∧ (∀ M, e2_MT[261]? = some M → e2_Met l M d ((2, 83, 0) :: [(11, 0, 4294967295), (11, 0, 4294967295)]) E_lb (lw_hM b m) (e2_fin rs)) ∧ ∀ q ∈ rs, lw_qR b (lw_hR b m) q)
  ⟨260, rs_l_turn_b0, by decide, fun M hM => lp_turn_b0 hen l 260 (Nat.le_refl _) M hM, e2_fa gq_b0 (e2_fz)⟩
  ⟨260, rs_l_turn_b1, by decide, fun M hM => lp_turn_b1 hen l 260 (Nat.le_refl _) M hM, e2_fa gq_b1 (e2_fz)⟩
  ⟨260, rs_l_turn_b2, by decide, fun M hM => lp_turn_b2 hen l 260 (Nat.le_refl _) M hM, e2_fa gq_b2 (e2_fz)⟩
  ⟨260, rs_l_turn_b3, by decide, fun M hM => lp_turn_b3 hen l 260 (Nat.le_refl _) M hM, e2_fa gq_b3 (e2_fz)⟩
  ⟨260, rs_l_turn_d0, by decide, fun M hM => lp_turn_d0 hen l 260 (Nat.le_refl _) M hM, e2_fa gq_d0 (e2_fz)⟩
  ⟨260, rs_l_turn_d1, by decide, fun M hM => lp_turn_d1 hen l 260 (Nat.le_refl _) M hM, e2_fa gq_d1 (e2_fz)⟩
  ⟨260, rs_l_turn_d2, by decide, fun M hM => lp_turn_d2 hen l 260 (Nat.le_refl _) M hM, e2_fa gq_d2 (e2_fz)⟩
  ⟨260, rs_l_turn_d3, by decide, fun M hM => lp_turn_d3 hen l 260 (Nat.le_refl _) M hM, e2_fa gq_d3 (e2_fz)⟩
theorem lr_plain (hen : en_ok) (l : Launch) : lw_cR l lw_hR lw_hM E_lb 262 [] := lw_8 (P := fun b m => ∃ d rs, d ≤ 1000 ∧ (∀ M, e2_MT[262]? = some M → e2_Met l M d ((2, 83, 0) :: []) E_lb (lw_hM b m) (e2_fin rs)) ∧ ∀ q ∈ rs, lw_qR b (lw_hR b m) q)
  ⟨260, rs_l_plain_b0, by decide, fun M hM => lp_plain_b0 hen l 260 (Nat.le_refl _) M hM, e2_fa gq_b0 (e2_fz)⟩
  ⟨260, rs_l_plain_b1, by decide, fun M hM => lp_plain_b1 hen l 260 (Nat.le_refl _) M hM, e2_fa gq_b1 (e2_fz)⟩
  ⟨260, rs_l_plain_b2, by decide, fun M hM => lp_plain_b2 hen l 260 (Nat.le_refl _) M hM, e2_fa gq_b2 (e2_fz)⟩
  ⟨260, rs_l_plain_b3, by decide, fun M hM => lp_plain_b3 hen l 260 (Nat.le_refl _) M hM, e2_fa gq_b3 (e2_fz)⟩
  ⟨260, rs_l_plain_d0, by decide, fun M hM => lp_plain_d0 hen l 260 (Nat.le_refl _) M hM, e2_fa gq_d0 (e2_fz)⟩
  ⟨260, rs_l_plain_d1, by decide, fun M hM => lp_plain_d1 hen l 260 (Nat.le_refl _) M hM, e2_fa gq_d1 (e2_fz)⟩
  ⟨260, rs_l_plain_d2, by decide, fun M hM => lp_plain_d2 hen l 260 (Nat.le_refl _) M hM, e2_fa gq_d2 (e2_fz)⟩
  ⟨260, rs_l_plain_d3, by decide, fun M hM => lp_plain_d3 hen l 260 (Nat.le_refl _) M hM, e2_fa gq_d3 (e2_fz)⟩
theorem lr_write (hen : en_ok) (l : Launch) : lw_cR l lw_hR lw_hM E_lb 269 [(11, 0, 4294967295), (11, 0, 4294967295), (11, 0, 4294967295)] := lw_8 (P := fun b m => ∃ d rs, d ≤ 1000 ∧ (∀ M, e2_MT[269]? = some M → e2_Met l M d ((2, 83, 0) :: [(11, 0, 4294967295), (11, 0, 4294967295), (11, 0, 4294967295)]) E_lb (lw_hM b m) (e2_fin rs)) ∧ ∀ q ∈ rs, lw_qR b (lw_hR b m) q)
  ⟨260, rs_l_write_b0, by decide, fun M hM => lp_write_b0 hen l 260 (Nat.le_refl _) M hM, e2_fa gq_b0 (e2_fz)⟩
  ⟨260, rs_l_write_b1, by decide, fun M hM => lp_write_b1 hen l 260 (Nat.le_refl _) M hM, e2_fa gq_b1 (e2_fz)⟩
  ⟨260, rs_l_write_b2, by decide, fun M hM => lp_write_b2 hen l 260 (Nat.le_refl _) M hM, e2_fa gq_b2 (e2_fz)⟩
  ⟨260, rs_l_write_b3, by decide, fun M hM => lp_write_b3 hen l 260 (Nat.le_refl _) M hM, e2_fa gq_b3 (e2_fz)⟩
  ⟨260, rs_l_write_d0, by decide, fun M hM => lp_write_d0 hen l 260 (Nat.le_refl _) M hM, e2_fa gq_d0 (e2_fz)⟩
  ⟨260, rs_l_write_d1, by decide, fun M hM => lp_write_d1 hen l 260 (Nat.le_refl _) M hM, e2_fa gq_d1 (e2_fz)⟩
  ⟨260, rs_l_write_d2, by decide, fun M hM => lp_write_d2 hen l 260 (Nat.le_refl _) M hM, e2_fa gq_d2 (e2_fz)⟩
  ⟨260, rs_l_write_d3, by decide, fun M hM => lp_write_d3 hen l 260 (Nat.le_refl _) M hM, e2_fa gq_d3 (e2_fz)⟩
theorem lr_watch (hen : en_ok) (l : Launch) : lw_cR l lw_hR lw_hM E_lb 270 [] := lw_8 (P := fun b m => ∃ d rs, d ≤ 1000 ∧ (∀ M, e2_MT[270]? = some M → e2_Met l M d ((2, 83, 0) :: []) E_lb (lw_hM b m) (e2_fin rs)) ∧ ∀ q ∈ rs, lw_qR b (lw_hR b m) q)
  ⟨260, rs_l_watch_b0, by decide, fun M hM => lp_watch_b0 hen l 260 (Nat.le_refl _) M hM, e2_fa gq_b0 (e2_fz)⟩
  ⟨260, rs_l_watch_b1, by decide, fun M hM => lp_watch_b1 hen l 260 (Nat.le_refl _) M hM, e2_fa gq_b1 (e2_fz)⟩
  ⟨260, rs_l_watch_b2, by decide, fun M hM => lp_watch_b2 hen l 260 (Nat.le_refl _) M hM, e2_fa gq_b2 (e2_fz)⟩
  ⟨260, rs_l_watch_b3, by decide, fun M hM => lp_watch_b3 hen l 260 (Nat.le_refl _) M hM, e2_fa gq_b3 (e2_fz)⟩
  ⟨260, rs_l_watch_d0, by decide, fun M hM => lp_watch_d0 hen l 260 (Nat.le_refl _) M hM, e2_fa gq_d0 (e2_fz)⟩
  ⟨260, rs_l_watch_d1, by decide, fun M hM => lp_watch_d1 hen l 260 (Nat.le_refl _) M hM, e2_fa gq_d1 (e2_fz)⟩
  ⟨260, rs_l_watch_d2, by decide, fun M hM => lp_watch_d2 hen l 260 (Nat.le_refl _) M hM, e2_fa gq_d2 (e2_fz)⟩
  ⟨260, rs_l_watch_d3, by decide, fun M hM => lp_watch_d3 hen l 260 (Nat.le_refl _) M hM, e2_fa gq_d3 (e2_fz)⟩
theorem lr_cows (hen : en_ok) (l : Launch) : lw_cR l lw_hR lw_hM E_lb 271 [(11, 0, 4294967295), (11, 0, 4294967295)] := lw_8 (P := fun b m => ∃ d rs, d ≤ 1000 ∧ (∀ M, e2_MT[271]? = some M → e2_Met l M d ((2, 83, 0) :: [(11, 0, 4294967295), (11, 0, 4294967295)]) E_lb (lw_hM b m) (e2_fin rs)) ∧ ∀ q ∈ rs, lw_qR b (lw_hR b m) q)
  ⟨260, rs_l_cows_b0, by decide, fun M hM => lp_cows_b0 hen l 260 (Nat.le_refl _) M hM, e2_fa gq_b0 (e2_fz)⟩
  ⟨260, rs_l_cows_b1, by decide, fun M hM => lp_cows_b1 hen l 260 (Nat.le_refl _) M hM, e2_fa gq_b1 (e2_fz)⟩
  ⟨260, rs_l_cows_b2, by decide, fun M hM => lp_cows_b2 hen l 260 (Nat.le_refl _) M hM, e2_fa gq_b2 (e2_fz)⟩
  ⟨260, rs_l_cows_b3, by decide, fun M hM => lp_cows_b3 hen l 260 (Nat.le_refl _) M hM, e2_fa gq_b3 (e2_fz)⟩
  ⟨260, rs_l_cows_d0, by decide, fun M hM => lp_cows_d0 hen l 260 (Nat.le_refl _) M hM, e2_fa gq_d0 (e2_fz)⟩
  ⟨260, rs_l_cows_d1, by decide, fun M hM => lp_cows_d1 hen l 260 (Nat.le_refl _) M hM, e2_fa gq_d1 (e2_fz)⟩
  ⟨260, rs_l_cows_d2, by decide, fun M hM => lp_cows_d2 hen l 260 (Nat.le_refl _) M hM, e2_fa gq_d2 (e2_fz)⟩
  ⟨260, rs_l_cows_d3, by decide, fun M hM => lp_cows_d3 hen l 260 (Nat.le_refl _) M hM, e2_fa gq_d3 (e2_fz)⟩
theorem lr_duel (hen : en_ok) (l : Launch) : lw_cR l lw_hR lw_hM E_lb 274 [(11, 0, 4294967295), (11, 0, 4294967295), (11, 0, 4294967295), (11, 0, 4294967295)] := lw_8 (P := fun b m => ∃ d rs, d ≤ 1000 ∧ (∀ M, e2_MT[274]? = some M → e2_Met l M d ((2, 83, 0) :: [(11, 0, 4294967295), (11, 0, 4294967295), (11, 0, 4294967295), (11, 0, 4294967295)]) E_lb (lw_hM b m) (e2_fin rs)) ∧ ∀ q ∈ rs, lw_qR b (lw_hR b m) q)
  ⟨260, rs_l_duel_b0, by decide, fun M hM => lp_duel_b0 hen l 260 (Nat.le_refl _) M hM, e2_fa gq_b0 (e2_fz)⟩
  ⟨260, rs_l_duel_b1, by decide, fun M hM => lp_duel_b1 hen l 260 (Nat.le_refl _) M hM, e2_fa gq_b1 (e2_fz)⟩
  ⟨260, rs_l_duel_b2, by decide, fun M hM => lp_duel_b2 hen l 260 (Nat.le_refl _) M hM, e2_fa gq_b2 (e2_fz)⟩
  ⟨260, rs_l_duel_b3, by decide, fun M hM => lp_duel_b3 hen l 260 (Nat.le_refl _) M hM, e2_fa gq_b3 (e2_fz)⟩
  ⟨260, rs_l_duel_d0, by decide, fun M hM => lp_duel_d0 hen l 260 (Nat.le_refl _) M hM, e2_fa gq_d0 (e2_fz)⟩
  ⟨260, rs_l_duel_d1, by decide, fun M hM => lp_duel_d1 hen l 260 (Nat.le_refl _) M hM, e2_fa gq_d1 (e2_fz)⟩
  ⟨260, rs_l_duel_d2, by decide, fun M hM => lp_duel_d2 hen l 260 (Nat.le_refl _) M hM, e2_fa gq_d2 (e2_fz)⟩
  ⟨260, rs_l_duel_d3, by decide, fun M hM => lp_duel_d3 hen l 260 (Nat.le_refl _) M hM, e2_fa gq_d3 (e2_fz)⟩
theorem lr_lies (hen : en_ok) (l : Launch) : lw_cR l lw_hR lw_hM E_lb 250 [(11, 0, 4294967295)] := lw_8 (P := fun b m => ∃ d rs, d ≤ 1000 ∧ (∀ M, e2_MT[250]? = some M → e2_Met l M d ((2, 83, 0) :: [(11, 0, 4294967295)]) E_lb (lw_hM b m) (e2_fin rs)) ∧ ∀ q ∈ rs, lw_qR b (lw_hR b m) q)
  ⟨260, rs_l_lies_b0, by decide, fun M hM => lp_lies_b0 hen l 260 (Nat.le_refl _) M hM, e2_fa gq_b0 (e2_fz)⟩
  ⟨260, rs_l_lies_b1, by decide, fun M hM => lp_lies_b1 hen l 260 (Nat.le_refl _) M hM, e2_fa gq_b1 (e2_fz)⟩
  ⟨260, rs_l_lies_b2, by decide, fun M hM => lp_lies_b2 hen l 260 (Nat.le_refl _) M hM, e2_fa gq_b2 (e2_fz)⟩
  ⟨260, rs_l_lies_b3, by decide, fun M hM => lp_lies_b3 hen l 260 (Nat.le_refl _) M hM, e2_fa gq_b3 (e2_fz)⟩
  ⟨260, rs_l_lies_d0, by decide, fun M hM => lp_lies_d0 hen l 260 (Nat.le_refl _) M hM, e2_fa gq_d0 (e2_fz)⟩
  ⟨260, rs_l_lies_d1, by decide, fun M hM => lp_lies_d1 hen l 260 (Nat.le_refl _) M hM, e2_fa gq_d1 (e2_fz)⟩
  ⟨260, rs_l_lies_d2, by decide, fun M hM => lp_lies_d2 hen l 260 (Nat.le_refl _) M hM, e2_fa gq_d2 (e2_fz)⟩
  ⟨260, rs_l_lies_d3, by decide, fun M hM => lp_lies_d3 hen l 260 (Nat.le_refl _) M hM, e2_fa gq_d3 (e2_fz)⟩
theorem lr_heard (hen : en_ok) (l : Launch) : lw_cR l lw_hR lw_hM E_lb 278 [(11, 0, 4294967295), (11, 0, 4294967295), (11, 0, 4294967295), (11, 2147483648, 2147483649)] := lw_8 (P := fun b m => ∃ d rs, d ≤ 1000 ∧ (∀ M, e2_MT[278]? = some M → e2_Met l M d ((2, 83, 0) :: [(11, 0, 4294967295), (11, 0, 4294967295), (11, 0, 4294967295), (11, 2147483648, 2147483649)]) E_lb (lw_hM b m) (e2_fin rs)) ∧ ∀ q ∈ rs, lw_qR b (lw_hR b m) q)
  ⟨260, rs_l_heard_b0, by decide, fun M hM => lp_heard_b0 hen l 260 (Nat.le_refl _) M hM, e2_fa gq_b0 (e2_fz)⟩
  ⟨260, rs_l_heard_b1, by decide, fun M hM => lp_heard_b1 hen l 260 (Nat.le_refl _) M hM, e2_fa gq_b1 (e2_fz)⟩
  ⟨260, rs_l_heard_b2, by decide, fun M hM => lp_heard_b2 hen l 260 (Nat.le_refl _) M hM, e2_fa gq_b2 (e2_fz)⟩
  ⟨260, rs_l_heard_b3, by decide, fun M hM => lp_heard_b3 hen l 260 (Nat.le_refl _) M hM, e2_fa gq_b3 (e2_fz)⟩
  ⟨260, rs_l_heard_d0, by decide, fun M hM => lp_heard_d0 hen l 260 (Nat.le_refl _) M hM, e2_fa gq_d0 (e2_fz)⟩
  ⟨260, rs_l_heard_d1, by decide, fun M hM => lp_heard_d1 hen l 260 (Nat.le_refl _) M hM, e2_fa gq_d1 (e2_fz)⟩
  ⟨260, rs_l_heard_d2, by decide, fun M hM => lp_heard_d2 hen l 260 (Nat.le_refl _) M hM, e2_fa gq_d2 (e2_fz)⟩
  ⟨260, rs_l_heard_d3, by decide, fun M hM => lp_heard_d3 hen l 260 (Nat.le_refl _) M hM, e2_fa gq_d3 (e2_fz)⟩
theorem lr_untell (hen : en_ok) (l : Launch) : lw_cR l lw_hR lw_hM E_lb 279 [(11, 0, 4294967295)] := lw_8 (P := fun b m => ∃ d rs, d ≤ 1000 ∧ (∀ M, e2_MT[279]? = some M → e2_Met l M d ((2, 83, 0) :: [(11, 0, 4294967295)]) E_lb (lw_hM b m) (e2_fin rs)) ∧ ∀ q ∈ rs, lw_qR b (lw_hR b m) q)
  ⟨260, rs_l_untell_b0, by decide, fun M hM => lp_untell_b0 hen l 260 (Nat.le_refl _) M hM, e2_fa gq_b0 (e2_fz)⟩
  ⟨260, rs_l_untell_b1, by decide, fun M hM => lp_untell_b1 hen l 260 (Nat.le_refl _) M hM, e2_fa gq_b1 (e2_fz)⟩
  ⟨260, rs_l_untell_b2, by decide, fun M hM => lp_untell_b2 hen l 260 (Nat.le_refl _) M hM, e2_fa gq_b2 (e2_fz)⟩
  ⟨260, rs_l_untell_b3, by decide, fun M hM => lp_untell_b3 hen l 260 (Nat.le_refl _) M hM, e2_fa gq_b3 (e2_fz)⟩
  ⟨260, rs_l_untell_d0, by decide, fun M hM => lp_untell_d0 hen l 260 (Nat.le_refl _) M hM, e2_fa gq_d0 (e2_fz)⟩
  ⟨260, rs_l_untell_d1, by decide, fun M hM => lp_untell_d1 hen l 260 (Nat.le_refl _) M hM, e2_fa gq_d1 (e2_fz)⟩
  ⟨260, rs_l_untell_d2, by decide, fun M hM => lp_untell_d2 hen l 260 (Nat.le_refl _) M hM, e2_fa gq_d2 (e2_fz)⟩
  ⟨260, rs_l_untell_d3, by decide, fun M hM => lp_untell_d3 hen l 260 (Nat.le_refl _) M hM, e2_fa gq_d3 (e2_fz)⟩
theorem lr_fit (hen : en_ok) (l : Launch) : lw_cR l lw_hR lw_hM E_lb 283 [(11, 0, 4294967295)] := lw_8 (P := fun b m => ∃ d rs, d ≤ 1000 ∧ (∀ M, e2_MT[283]? = some M → e2_Met l M d ((2, 83, 0) :: [(11, 0, 4294967295)]) E_lb (lw_hM b m) (e2_fin rs)) ∧ ∀ q ∈ rs, lw_qR b (lw_hR b m) q)
  ⟨260, rs_l_fit_b0, by decide, fun M hM => lp_fit_b0 hen l 260 (Nat.le_refl _) M hM, e2_fa gq_b0 (e2_fz)⟩
  ⟨260, rs_l_fit_b1, by decide, fun M hM => lp_fit_b1 hen l 260 (Nat.le_refl _) M hM, e2_fa gq_b1 (e2_fz)⟩
  ⟨260, rs_l_fit_b2, by decide, fun M hM => lp_fit_b2 hen l 260 (Nat.le_refl _) M hM, e2_fa gq_b2 (e2_fz)⟩
  ⟨260, rs_l_fit_b3, by decide, fun M hM => lp_fit_b3 hen l 260 (Nat.le_refl _) M hM, e2_fa gq_b3 (e2_fz)⟩
  ⟨260, rs_l_fit_d0, by decide, fun M hM => lp_fit_d0 hen l 260 (Nat.le_refl _) M hM, e2_fa gq_d0 (e2_fz)⟩
  ⟨260, rs_l_fit_d1, by decide, fun M hM => lp_fit_d1 hen l 260 (Nat.le_refl _) M hM, e2_fa gq_d1 (e2_fz)⟩
  ⟨260, rs_l_fit_d2, by decide, fun M hM => lp_fit_d2 hen l 260 (Nat.le_refl _) M hM, e2_fa gq_d2 (e2_fz)⟩
  ⟨260, rs_l_fit_d3, by decide, fun M hM => lp_fit_d3 hen l 260 (Nat.le_refl _) M hM, e2_fa gq_d3 (e2_fz)⟩
theorem lr_sure (hen : en_ok) (l : Launch) : lw_cR l lw_hR lw_hM E_lb 284 [(11, 0, 4294967295), (11, 0, 4294967295), (11, 0, 4294967295)] := lw_8 (P := fun b m => ∃ d rs, d ≤ 1000 ∧ (∀ M, e2_MT[284]? = some M → e2_Met l M d ((2, 83, 0) :: [(11, 0, 4294967295), (11, 0, 4294967295), (11, 0, 4294967295)]) E_lb (lw_hM b m) (e2_fin rs)) ∧ ∀ q ∈ rs, lw_qR b (lw_hR b m) q)
  ⟨260, rs_l_sure_b0, by decide, fun M hM => lp_sure_b0 hen l 260 (Nat.le_refl _) M hM, e2_fa gq_b0 (e2_fz)⟩
  ⟨260, rs_l_sure_b1, by decide, fun M hM => lp_sure_b1 hen l 260 (Nat.le_refl _) M hM, e2_fa gq_b1 (e2_fz)⟩
  ⟨260, rs_l_sure_b2, by decide, fun M hM => lp_sure_b2 hen l 260 (Nat.le_refl _) M hM, e2_fa gq_b2 (e2_fz)⟩
  ⟨260, rs_l_sure_b3, by decide, fun M hM => lp_sure_b3 hen l 260 (Nat.le_refl _) M hM, e2_fa gq_b3 (e2_fz)⟩
  ⟨260, rs_l_sure_d0, by decide, fun M hM => lp_sure_d0 hen l 260 (Nat.le_refl _) M hM, e2_fa gq_d0 (e2_fz)⟩
  ⟨260, rs_l_sure_d1, by decide, fun M hM => lp_sure_d1 hen l 260 (Nat.le_refl _) M hM, e2_fa gq_d1 (e2_fz)⟩
  ⟨260, rs_l_sure_d2, by decide, fun M hM => lp_sure_d2 hen l 260 (Nat.le_refl _) M hM, e2_fa gq_d2 (e2_fz)⟩
  ⟨260, rs_l_sure_d3, by decide, fun M hM => lp_sure_d3 hen l 260 (Nat.le_refl _) M hM, e2_fa gq_d3 (e2_fz)⟩
theorem lr_ask (hen : en_ok) (l : Launch) : lw_cR l lw_hR lw_hM E_lb 285 [(11, 0, 4294967295), (11, 0, 4294967295)] := lw_8 (P := fun b m => ∃ d rs, d ≤ 1000 ∧ (∀ M, e2_MT[285]? = some M → e2_Met l M d ((2, 83, 0) :: [(11, 0, 4294967295), (11, 0, 4294967295)]) E_lb (lw_hM b m) (e2_fin rs)) ∧ ∀ q ∈ rs, lw_qR b (lw_hR b m) q)
  ⟨260, rs_l_ask_b0, by decide, fun M hM => lp_ask_b0 hen l 260 (Nat.le_refl _) M hM, e2_fa gq_b0 (e2_fz)⟩
  ⟨260, rs_l_ask_b1, by decide, fun M hM => lp_ask_b1 hen l 260 (Nat.le_refl _) M hM, e2_fa gq_b1 (e2_fz)⟩
  ⟨260, rs_l_ask_b2, by decide, fun M hM => lp_ask_b2 hen l 260 (Nat.le_refl _) M hM, e2_fa gq_b2 (e2_fz)⟩
  ⟨260, rs_l_ask_b3, by decide, fun M hM => lp_ask_b3 hen l 260 (Nat.le_refl _) M hM, e2_fa gq_b3 (e2_fz)⟩
  ⟨260, rs_l_ask_d0, by decide, fun M hM => lp_ask_d0 hen l 260 (Nat.le_refl _) M hM, e2_fa gq_d0 (e2_fz)⟩
  ⟨260, rs_l_ask_d1, by decide, fun M hM => lp_ask_d1 hen l 260 (Nat.le_refl _) M hM, e2_fa gq_d1 (e2_fz)⟩
  ⟨260, rs_l_ask_d2, by decide, fun M hM => lp_ask_d2 hen l 260 (Nat.le_refl _) M hM, e2_fa gq_d2 (e2_fz)⟩
  ⟨260, rs_l_ask_d3, by decide, fun M hM => lp_ask_d3 hen l 260 (Nat.le_refl _) M hM, e2_fa gq_d3 (e2_fz)⟩
theorem lr_image (hen : en_ok) (l : Launch) : lw_cR l lw_hR lw_hM E_lb 286 [(11, 0, 4294967295)] := lw_8 (P := fun b m => ∃ d rs, d ≤ 1000 ∧ (∀ M, e2_MT[286]? = some M → e2_Met l M d ((2, 83, 0) :: [(11, 0, 4294967295)]) E_lb (lw_hM b m) (e2_fin rs)) ∧ ∀ q ∈ rs, lw_qR b (lw_hR b m) q)
  ⟨260, rs_l_image_b0, by decide, fun M hM => lp_image_b0 hen l 260 (Nat.le_refl _) M hM, e2_fa gq_b0 (e2_fz)⟩
  ⟨260, rs_l_image_b1, by decide, fun M hM => lp_image_b1 hen l 260 (Nat.le_refl _) M hM, e2_fa gq_b1 (e2_fz)⟩
  ⟨260, rs_l_image_b2, by decide, fun M hM => lp_image_b2 hen l 260 (Nat.le_refl _) M hM, e2_fa gq_b2 (e2_fz)⟩
  ⟨260, rs_l_image_b3, by decide, fun M hM => lp_image_b3 hen l 260 (Nat.le_refl _) M hM, e2_fa gq_b3 (e2_fz)⟩
  ⟨260, rs_l_image_d0, by decide, fun M hM => lp_image_d0 hen l 260 (Nat.le_refl _) M hM, e2_fa gq_d0 (e2_fz)⟩
  ⟨260, rs_l_image_d1, by decide, fun M hM => lp_image_d1 hen l 260 (Nat.le_refl _) M hM, e2_fa gq_d1 (e2_fz)⟩
  ⟨260, rs_l_image_d2, by decide, fun M hM => lp_image_d2 hen l 260 (Nat.le_refl _) M hM, e2_fa gq_d2 (e2_fz)⟩
  ⟨260, rs_l_image_d3, by decide, fun M hM => lp_image_d3 hen l 260 (Nat.le_refl _) M hM, e2_fa gq_d3 (e2_fz)⟩
theorem lr_back (hen : en_ok) (l : Launch) : lw_cR l lw_hR lw_hM E_lb 287 [(11, 0, 4294967295)] := lw_8 (P := fun b m => ∃ d rs, d ≤ 1000 ∧ (∀ M, e2_MT[287]? = some M → e2_Met l M d ((2, 83, 0) :: [(11, 0, 4294967295)]) E_lb (lw_hM b m) (e2_fin rs)) ∧ ∀ q ∈ rs, lw_qR b (lw_hR b m) q)
  ⟨260, rs_l_back_b0, by decide, fun M hM => lp_back_b0 hen l 260 (Nat.le_refl _) M hM, e2_fa gq_b0 (e2_fa gq_b0k (e2_fz))⟩
  ⟨260, rs_l_back_b1, by decide, fun M hM => lp_back_b1 hen l 260 (Nat.le_refl _) M hM, e2_fa gq_b1 (e2_fa gq_b1k (e2_fz))⟩
  ⟨260, rs_l_back_b2, by decide, fun M hM => lp_back_b2 hen l 260 (Nat.le_refl _) M hM, e2_fa gq_b2 (e2_fa gq_b2k (e2_fz))⟩
  ⟨260, rs_l_back_b3, by decide, fun M hM => lp_back_b3 hen l 260 (Nat.le_refl _) M hM, e2_fa gq_b3 (e2_fa gq_b3k (e2_fz))⟩
  ⟨260, rs_l_back_d0, by decide, fun M hM => lp_back_d0 hen l 260 (Nat.le_refl _) M hM, e2_fa gq_d0 (e2_fa gq_d0k (e2_fz))⟩
  ⟨260, rs_l_back_d1, by decide, fun M hM => lp_back_d1 hen l 260 (Nat.le_refl _) M hM, e2_fa gq_d1 (e2_fa gq_d1k (e2_fz))⟩
  ⟨260, rs_l_back_d2, by decide, fun M hM => lp_back_d2 hen l 260 (Nat.le_refl _) M hM, e2_fa gq_d2 (e2_fa gq_d2k (e2_fz))⟩
  ⟨260, rs_l_back_d3, by decide, fun M hM => lp_back_d3 hen l 260 (Nat.le_refl _) M hM, e2_fa gq_d3 (e2_fa gq_d3k (e2_fz))⟩
theorem lr_about (hen : en_ok) (l : Launch) : lw_cR l lw_hR lw_hM E_lb 288 [(11, 0, 4294967295)] := lw_8 (P := fun b m => ∃ d rs, d ≤ 1000 ∧ (∀ M, e2_MT[288]? = some M → e2_Met l M d ((2, 83, 0) :: [(11, 0, 4294967295)]) E_lb (lw_hM b m) (e2_fin rs)) ∧ ∀ q ∈ rs, lw_qR b (lw_hR b m) q)
  ⟨260, rs_l_about_b0, by decide, fun M hM => lp_about_b0 hen l 260 (Nat.le_refl _) M hM, e2_fa gq_b0 (e2_fz)⟩
  ⟨260, rs_l_about_b1, by decide, fun M hM => lp_about_b1 hen l 260 (Nat.le_refl _) M hM, e2_fa gq_b1 (e2_fz)⟩
  ⟨260, rs_l_about_b2, by decide, fun M hM => lp_about_b2 hen l 260 (Nat.le_refl _) M hM, e2_fa gq_b2 (e2_fz)⟩
  ⟨260, rs_l_about_b3, by decide, fun M hM => lp_about_b3 hen l 260 (Nat.le_refl _) M hM, e2_fa gq_b3 (e2_fz)⟩
  ⟨260, rs_l_about_d0, by decide, fun M hM => lp_about_d0 hen l 260 (Nat.le_refl _) M hM, e2_fa gq_d0 (e2_fz)⟩
  ⟨260, rs_l_about_d1, by decide, fun M hM => lp_about_d1 hen l 260 (Nat.le_refl _) M hM, e2_fa gq_d1 (e2_fz)⟩
  ⟨260, rs_l_about_d2, by decide, fun M hM => lp_about_d2 hen l 260 (Nat.le_refl _) M hM, e2_fa gq_d2 (e2_fz)⟩
  ⟨260, rs_l_about_d3, by decide, fun M hM => lp_about_d3 hen l 260 (Nat.le_refl _) M hM, e2_fa gq_d3 (e2_fz)⟩
theorem lw_hcr (hen : en_ok) (l : Launch) : ∀ q ∈ lw_lR, lw_cR l lw_hR lw_hM E_lb q.1 q.2 :=
  e2_fa (lr_feed hen l) (e2_fa (lr_end hen l) (e2_fa (lr_fault hen l) (e2_fa (lr_thing hen l) (e2_fa (lr_glyph hen l) (e2_fa (lr_plot hen l) (e2_fa (lr_mow hen l) (e2_fa (lr_sow hen l) (e2_fa (lr_year hen l) (e2_fa (lr_readings hen l) (e2_fa (lr_taken hen l) (e2_fa (lr_weight hen l) (e2_fa (lr_does hen l) (e2_fa (lr_will hen l) (e2_fa (lr_field hen l) (e2_fa (lr_harm hen l) (e2_fa (lr_turn hen l) (e2_fa (lr_plain hen l) (e2_fa (lr_write hen l) (e2_fa (lr_watch hen l) (e2_fa (lr_cows hen l) (e2_fa (lr_duel hen l) (e2_fa (lr_lies hen l) (e2_fa (lr_heard hen l) (e2_fa (lr_untell hen l) (e2_fa (lr_fit hen l) (e2_fa (lr_sure hen l) (e2_fa (lr_ask hen l) (e2_fa (lr_image hen l) (e2_fa (lr_back hen l) (e2_fa (lr_about hen l) (e2_fz)))))))))))))))))))))))))))))))
