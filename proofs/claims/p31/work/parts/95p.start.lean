/-! THE START OF THE STATE: closed -/
set_option maxRecDepth 1000000 in
theorem f3_1 : ∀ k, k < 83 → k ≠ 77 → lw_cs (ev_hg h_wa k) (lw_cvC (ev_hg ev_h0 k)) = true := by decide +kernel
set_option maxRecDepth 1000000 in
theorem f3_2 : lw_cs (1, (ev_hg h_wa 77).2.set 3 (0, 0, 0)) (lw_cvC (ev_hg ev_h0 77)) = true := by decide +kernel
set_option maxRecDepth 1000000 in
theorem f3_3x : ∀ k, k < 133 → (Nat.blt k 84 || (Nat.beq k 107 || (Nat.beq k 101 || (Nat.beq k 102 || (Nat.beq k 118 || lw_cs (ev_hg h_wb0 k) (lw_cvC (ev_hg ev_h0 k))))))) = true := by decide +kernel
theorem f3_3 : ∀ k, k < 133 → 84 ≤ k → k ≠ 107 → k ≠ 101 → k ≠ 102 → k ≠ 118 → lw_cs (ev_hg h_wb0 k) (lw_cvC (ev_hg ev_h0 k)) = true := fun k h0 h1 h2 h3 h4 h5 => f0_or (f0_or (f0_or (f0_or (f0_or (f3_3x k h0) (sy_blt_f h1)) (f0_beq h2)) (f0_beq h3)) (f0_beq h4)) (f0_beq h5)
set_option maxRecDepth 1000000 in
theorem f3_4 : lw_cs (10, (ev_hg h_wb0 83).2.set 22 (0, 0, 0)) (lw_cvC (ev_hg ev_h0 83)) = true := by decide +kernel
theorem lw_s0_ok : lw_s0 h_wa h_wb0 := ⟨f3_1, ⟨_, f1_a7.2.2.1, f1_a7.2.2.2, f3_2⟩, fun k k1 k2 => f3_3 k k2 k1, _, f2_b01.1, f2_B4, f3_4⟩
