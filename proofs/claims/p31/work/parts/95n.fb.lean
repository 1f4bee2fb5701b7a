/-! CLOSED FACTS OF THE PRINTED HEAPS: the reference, bank 0 -/
theorem f0_or {a b : Bool} (h : (a || b) = true) (ha : a = false) : b = true := by
  rw [ha, Bool.false_or] at h
  exact h
theorem f0_beq {k n : Nat} (h : k ≠ n) : Nat.beq k n = false := Bool.eq_false_iff.mpr fun z => h (Nat.eq_of_beq_eq_true z)
set_option maxRecDepth 1000000 in
theorem f2_b01 : ev_hg h_wb0 83 = (10, (ev_hg h_wb0 83).2) ∧ (ev_hg h_wb0 83).2[6]? = some (11, 2147483648, 2147483688) ∧ (ev_hg h_wb0 83).2[34]? = some (11, 2147483648, 2147483688) := by decide +kernel
set_option maxRecDepth 1000000 in
theorem f2_b02 : ev_hg h_wb0 88 = (50, List.replicate 2 (11, 2147483648, 2147483656)) ∧ ev_hg h_wb0 97 = (50, List.replicate 16 (11, 2147483648, 2147483654)) ∧ ev_hg h_wb0 107 = (60 + 10 * 0 + 0, []) ∧ ev_hg h_wb0 101 = (64 + 10 * 0, []) ∧ ev_hg h_wb0 102 = (65 + 10 * 0, []) ∧ ev_hg h_wb0 118 = (66, []) := by decide +kernel
set_option maxRecDepth 1000000 in
theorem f2_b03x : ∀ k, k < 133 → (Nat.blt k 83 || (Nat.beq k 107 || (Nat.beq k 101 || (Nat.beq k 102 || (Nat.beq k 118 || Nat.blt (ev_hg h_wb0 k).1 60))))) = true := by decide +kernel
theorem f2_b03 : ∀ k, k < 133 → 83 ≤ k → k ≠ 107 → k ≠ 101 → k ≠ 102 → k ≠ 118 → (ev_hg h_wb0 k).1 < 60 := fun k h0 h1 h2 h3 h4 h5 => Nat.le_of_ble_eq_true (f0_or (f0_or (f0_or (f0_or (f0_or (f2_b03x k h0) (sy_blt_f h1)) (f0_beq h2)) (f0_beq h3)) (f0_beq h4)) (f0_beq h5))
set_option maxRecDepth 1000000 in
theorem f2_b04x : ∀ k, k < 133 → ¬ (83 ≤ k ∧ k < 133) → ev_ceq (ev_hg h_wb0 k) ((100 + k, [])) = true := by decide +kernel
theorem f2_b04 : ∀ k, k < 133 → ¬ (83 ≤ k ∧ k < 133) → ev_hg h_wb0 k = (100 + k, []) := fun k h0 h1 => f0_ceq (f2_b04x k h0 h1)
theorem f2_b0ok : lw_okW h_wb0 0 0 := ⟨⟨_, f2_b01⟩, f2_b02.1, f2_b02.2.1, f2_b02.2.2.1, f2_b02.2.2.2.1, f2_b02.2.2.2.2.1, f2_b02.2.2.2.2.2, fun k k1 k2 => f2_b03 k k2 k1, f2_b04⟩
set_option maxRecDepth 1000000 in
theorem f2_b05 : lw_kB h_wb0 = true ∧ lw_kO h_wb0 = true ∧ (ev_hg h_wb0 83).2.length = 80 ∧ (ev_hg h_wb0 83).2[42]? = some (5, 0, 0) := by decide +kernel
set_option maxRecDepth 1000000 in
theorem f2_b06x : ∀ k, k < 133 → (Nat.blt k 84 || (Nat.beq k 86 || (Nat.beq k 104 || (Nat.beq k 107 || (Nat.beq k 101 || (Nat.beq k 102 || ev_ceq (ev_hg h_wb0 k) (ev_hg h_wb0 k))))))) = true := by decide +kernel
theorem f2_b06 : ∀ k, k < 133 → 84 ≤ k ∧ k ≠ 86 → k ≠ 104 → k ≠ 107 → k ≠ 101 → k ≠ 102 → ev_hg h_wb0 k = ev_hg h_wb0 k := fun k h0 h1 h2 h3 h4 h5 => f0_ceq (f0_or (f0_or (f0_or (f0_or (f0_or (f0_or (f2_b06x k h0) (sy_blt_f h1.1)) (f0_beq h1.2)) (f0_beq h2)) (f0_beq h3)) (f0_beq h4)) (f0_beq h5))
set_option maxRecDepth 1000000 in
theorem f2_b07 : ∀ j, j < 80 → j ≠ 0 → (ev_hg h_wb0 83).2[j]? = (ev_hg h_wb0 83).2[j]? := by decide +kernel
set_option maxRecDepth 1000000 in
theorem f2_b08 : (ev_hg h_wb0 83).2[0]? = some (0, 0, 0) ∧ (∀ j, j < 4 → lw_el (ev_hg h_wb0 104) j = if j / 2 = 0 then (0, 0 / 2 ^ (j % 2) % 2, 0) else (11, 2147483648, 2147483649)) ∧ (ev_hg h_wb0 83).1 = 10 ∧ (ev_hg h_wb0 104).1 = 52 ∧ ev_hg h_wb0 86 = (50, [(11, 2147483652, 2147483668), (11, 2147483648 + 4 * 0, 2147483668)]) := by decide +kernel
theorem f2_b0W : lw_W h_wb0 h_wb0 0 0 := ⟨f2_b0ok, f2_b05.1, f2_b05.2.1, f2_b05.2.2.1, f2_b05.2.2.2, fun k k1 k2 => f2_b06 k k2 k1, f2_b07, f2_b08.1, f2_b08.2.1, f2_b08.2.2.1, f2_b08.2.2.2.1, f2_b08.2.2.2.2⟩
set_option maxRecDepth 1000000 in
theorem f2_b09 : e2_idh 0 8 (e2_gset h_wb0 83 22 (0, 0, 0)) = true ∧ e2_idh 1 8 h_wb0 = true := by decide +kernel
set_option maxRecDepth 1000000 in
theorem f2_b010x : ∀ k, k < 133 → 83 ≤ k → k ≠ 83 → k ≠ 88 → k ≠ 97 → ev_ceq (ev_hg h_lb0 k) (ev_hg h_wb0 k) = true := by decide +kernel
theorem f2_b010 : ∀ k, k < 133 → 83 ≤ k → k ≠ 83 → k ≠ 88 → k ≠ 97 → ev_hg h_lb0 k = ev_hg h_wb0 k := fun k h0 h1 h2 h3 h4 => f0_ceq (f2_b010x k h0 h1 h2 h3 h4)
set_option maxRecDepth 1000000 in
theorem f2_b011 : ev_hg h_lb0 83 = (10, ((ev_hg h_wb0 83).2.set 6 (1, 2, 4294967296)).set 34 (1, 3, 4294967296)) ∧ ev_hg h_lb0 88 = (50, (List.replicate 2 (11, 2147483648, 2147483656)).set 0 (1, 1, 4294967296)) ∧ ev_hg h_lb0 97 = (50, lw_l97 0) := by decide +kernel
set_option maxRecDepth 1000000 in
theorem f2_b012x : ∀ k, k < 133 → ¬ (83 ≤ k ∧ k < 133) → ev_ceq (ev_hg h_lb0 k) ((100 + k, [])) = true := by decide +kernel
theorem f2_b012 : ∀ k, k < 133 → ¬ (83 ≤ k ∧ k < 133) → ev_hg h_lb0 k = (100 + k, []) := fun k h0 h1 => f0_ceq (f2_b012x k h0 h1)
theorem f2_b0N : lw_okN h_lb0 h_wb0 0 := ⟨fun k k1 k2 => f2_b010 k k2 k1, f2_b011.1, f2_b011.2.1, f2_b011.2.2, f2_b012⟩
set_option maxRecDepth 1000000 in
theorem f2_b11 : ev_hg h_wb1 83 = (10, (ev_hg h_wb1 83).2) ∧ (ev_hg h_wb1 83).2[6]? = some (11, 2147483648, 2147483688) ∧ (ev_hg h_wb1 83).2[34]? = some (11, 2147483648, 2147483688) := by decide +kernel
set_option maxRecDepth 1000000 in
theorem f2_b12 : ev_hg h_wb1 88 = (50, List.replicate 2 (11, 2147483648, 2147483656)) ∧ ev_hg h_wb1 97 = (50, List.replicate 16 (11, 2147483648, 2147483654)) ∧ ev_hg h_wb1 107 = (60 + 10 * 0 + 1, []) ∧ ev_hg h_wb1 101 = (64 + 10 * 0, []) ∧ ev_hg h_wb1 102 = (65 + 10 * 0, []) ∧ ev_hg h_wb1 118 = (66, []) := by decide +kernel
set_option maxRecDepth 1000000 in
theorem f2_b13x : ∀ k, k < 133 → (Nat.blt k 83 || (Nat.beq k 107 || (Nat.beq k 101 || (Nat.beq k 102 || (Nat.beq k 118 || Nat.blt (ev_hg h_wb1 k).1 60))))) = true := by decide +kernel
theorem f2_b13 : ∀ k, k < 133 → 83 ≤ k → k ≠ 107 → k ≠ 101 → k ≠ 102 → k ≠ 118 → (ev_hg h_wb1 k).1 < 60 := fun k h0 h1 h2 h3 h4 h5 => Nat.le_of_ble_eq_true (f0_or (f0_or (f0_or (f0_or (f0_or (f2_b13x k h0) (sy_blt_f h1)) (f0_beq h2)) (f0_beq h3)) (f0_beq h4)) (f0_beq h5))
set_option maxRecDepth 1000000 in
theorem f2_b14x : ∀ k, k < 133 → ¬ (83 ≤ k ∧ k < 133) → ev_ceq (ev_hg h_wb1 k) ((100 + k, [])) = true := by decide +kernel
theorem f2_b14 : ∀ k, k < 133 → ¬ (83 ≤ k ∧ k < 133) → ev_hg h_wb1 k = (100 + k, []) := fun k h0 h1 => f0_ceq (f2_b14x k h0 h1)
theorem f2_b1ok : lw_okW h_wb1 0 1 := ⟨⟨_, f2_b11⟩, f2_b12.1, f2_b12.2.1, f2_b12.2.2.1, f2_b12.2.2.2.1, f2_b12.2.2.2.2.1, f2_b12.2.2.2.2.2, fun k k1 k2 => f2_b13 k k2 k1, f2_b14⟩
set_option maxRecDepth 1000000 in
theorem f2_b15 : lw_kB h_wb1 = true ∧ lw_kO h_wb1 = true ∧ (ev_hg h_wb1 83).2.length = 80 ∧ (ev_hg h_wb1 83).2[42]? = some (5, 0, 0) := by decide +kernel
set_option maxRecDepth 1000000 in
theorem f2_b16x : ∀ k, k < 133 → (Nat.blt k 84 || (Nat.beq k 86 || (Nat.beq k 104 || (Nat.beq k 107 || (Nat.beq k 101 || (Nat.beq k 102 || ev_ceq (ev_hg h_wb1 k) (ev_hg h_wb0 k))))))) = true := by decide +kernel
theorem f2_b16 : ∀ k, k < 133 → 84 ≤ k ∧ k ≠ 86 → k ≠ 104 → k ≠ 107 → k ≠ 101 → k ≠ 102 → ev_hg h_wb1 k = ev_hg h_wb0 k := fun k h0 h1 h2 h3 h4 h5 => f0_ceq (f0_or (f0_or (f0_or (f0_or (f0_or (f0_or (f2_b16x k h0) (sy_blt_f h1.1)) (f0_beq h1.2)) (f0_beq h2)) (f0_beq h3)) (f0_beq h4)) (f0_beq h5))
set_option maxRecDepth 1000000 in
theorem f2_b17 : ∀ j, j < 80 → j ≠ 0 → (ev_hg h_wb1 83).2[j]? = (ev_hg h_wb0 83).2[j]? := by decide +kernel
set_option maxRecDepth 1000000 in
theorem f2_b18 : (ev_hg h_wb1 83).2[0]? = some (0, 0, 0) ∧ (∀ j, j < 4 → lw_el (ev_hg h_wb1 104) j = if j / 2 = 0 then (0, 1 / 2 ^ (j % 2) % 2, 0) else (11, 2147483648, 2147483649)) ∧ (ev_hg h_wb1 83).1 = 10 ∧ (ev_hg h_wb1 104).1 = 52 ∧ ev_hg h_wb1 86 = (50, [(11, 2147483652, 2147483668), (11, 2147483648 + 4 * 0, 2147483668)]) := by decide +kernel
theorem f2_b1W : lw_W h_wb0 h_wb1 0 1 := ⟨f2_b1ok, f2_b15.1, f2_b15.2.1, f2_b15.2.2.1, f2_b15.2.2.2, fun k k1 k2 => f2_b16 k k2 k1, f2_b17, f2_b18.1, f2_b18.2.1, f2_b18.2.2.1, f2_b18.2.2.2.1, f2_b18.2.2.2.2⟩
set_option maxRecDepth 1000000 in
theorem f2_b19 : e2_idh 0 8 (e2_gset h_wb1 83 22 (0, 0, 0)) = true ∧ e2_idh 1 8 h_wb1 = true := by decide +kernel
set_option maxRecDepth 1000000 in
theorem f2_b110x : ∀ k, k < 133 → 83 ≤ k → k ≠ 83 → k ≠ 88 → k ≠ 97 → ev_ceq (ev_hg h_lb1 k) (ev_hg h_wb1 k) = true := by decide +kernel
theorem f2_b110 : ∀ k, k < 133 → 83 ≤ k → k ≠ 83 → k ≠ 88 → k ≠ 97 → ev_hg h_lb1 k = ev_hg h_wb1 k := fun k h0 h1 h2 h3 h4 => f0_ceq (f2_b110x k h0 h1 h2 h3 h4)
set_option maxRecDepth 1000000 in
theorem f2_b111 : ev_hg h_lb1 83 = (10, ((ev_hg h_wb1 83).2.set 6 (1, 2, 4294967296)).set 34 (1, 3, 4294967296)) ∧ ev_hg h_lb1 88 = (50, (List.replicate 2 (11, 2147483648, 2147483656)).set 0 (1, 1, 4294967296)) ∧ ev_hg h_lb1 97 = (50, lw_l97 0) := by decide +kernel
set_option maxRecDepth 1000000 in
theorem f2_b112x : ∀ k, k < 133 → ¬ (83 ≤ k ∧ k < 133) → ev_ceq (ev_hg h_lb1 k) ((100 + k, [])) = true := by decide +kernel
theorem f2_b112 : ∀ k, k < 133 → ¬ (83 ≤ k ∧ k < 133) → ev_hg h_lb1 k = (100 + k, []) := fun k h0 h1 => f0_ceq (f2_b112x k h0 h1)
theorem f2_b1N : lw_okN h_lb1 h_wb1 0 := ⟨fun k k1 k2 => f2_b110 k k2 k1, f2_b111.1, f2_b111.2.1, f2_b111.2.2, f2_b112⟩
set_option maxRecDepth 1000000 in
theorem f2_b21 : ev_hg h_wb2 83 = (10, (ev_hg h_wb2 83).2) ∧ (ev_hg h_wb2 83).2[6]? = some (11, 2147483648, 2147483688) ∧ (ev_hg h_wb2 83).2[34]? = some (11, 2147483648, 2147483688) := by decide +kernel
set_option maxRecDepth 1000000 in
theorem f2_b22 : ev_hg h_wb2 88 = (50, List.replicate 2 (11, 2147483648, 2147483656)) ∧ ev_hg h_wb2 97 = (50, List.replicate 16 (11, 2147483648, 2147483654)) ∧ ev_hg h_wb2 107 = (60 + 10 * 0 + 2, []) ∧ ev_hg h_wb2 101 = (64 + 10 * 0, []) ∧ ev_hg h_wb2 102 = (65 + 10 * 0, []) ∧ ev_hg h_wb2 118 = (66, []) := by decide +kernel
set_option maxRecDepth 1000000 in
theorem f2_b23x : ∀ k, k < 133 → (Nat.blt k 83 || (Nat.beq k 107 || (Nat.beq k 101 || (Nat.beq k 102 || (Nat.beq k 118 || Nat.blt (ev_hg h_wb2 k).1 60))))) = true := by decide +kernel
theorem f2_b23 : ∀ k, k < 133 → 83 ≤ k → k ≠ 107 → k ≠ 101 → k ≠ 102 → k ≠ 118 → (ev_hg h_wb2 k).1 < 60 := fun k h0 h1 h2 h3 h4 h5 => Nat.le_of_ble_eq_true (f0_or (f0_or (f0_or (f0_or (f0_or (f2_b23x k h0) (sy_blt_f h1)) (f0_beq h2)) (f0_beq h3)) (f0_beq h4)) (f0_beq h5))
set_option maxRecDepth 1000000 in
theorem f2_b24x : ∀ k, k < 133 → ¬ (83 ≤ k ∧ k < 133) → ev_ceq (ev_hg h_wb2 k) ((100 + k, [])) = true := by decide +kernel
theorem f2_b24 : ∀ k, k < 133 → ¬ (83 ≤ k ∧ k < 133) → ev_hg h_wb2 k = (100 + k, []) := fun k h0 h1 => f0_ceq (f2_b24x k h0 h1)
theorem f2_b2ok : lw_okW h_wb2 0 2 := ⟨⟨_, f2_b21⟩, f2_b22.1, f2_b22.2.1, f2_b22.2.2.1, f2_b22.2.2.2.1, f2_b22.2.2.2.2.1, f2_b22.2.2.2.2.2, fun k k1 k2 => f2_b23 k k2 k1, f2_b24⟩
set_option maxRecDepth 1000000 in
theorem f2_b25 : lw_kB h_wb2 = true ∧ lw_kO h_wb2 = true ∧ (ev_hg h_wb2 83).2.length = 80 ∧ (ev_hg h_wb2 83).2[42]? = some (5, 0, 0) := by decide +kernel
set_option maxRecDepth 1000000 in
theorem f2_b26x : ∀ k, k < 133 → (Nat.blt k 84 || (Nat.beq k 86 || (Nat.beq k 104 || (Nat.beq k 107 || (Nat.beq k 101 || (Nat.beq k 102 || ev_ceq (ev_hg h_wb2 k) (ev_hg h_wb0 k))))))) = true := by decide +kernel
theorem f2_b26 : ∀ k, k < 133 → 84 ≤ k ∧ k ≠ 86 → k ≠ 104 → k ≠ 107 → k ≠ 101 → k ≠ 102 → ev_hg h_wb2 k = ev_hg h_wb0 k := fun k h0 h1 h2 h3 h4 h5 => f0_ceq (f0_or (f0_or (f0_or (f0_or (f0_or (f0_or (f2_b26x k h0) (sy_blt_f h1.1)) (f0_beq h1.2)) (f0_beq h2)) (f0_beq h3)) (f0_beq h4)) (f0_beq h5))
set_option maxRecDepth 1000000 in
theorem f2_b27 : ∀ j, j < 80 → j ≠ 0 → (ev_hg h_wb2 83).2[j]? = (ev_hg h_wb0 83).2[j]? := by decide +kernel
set_option maxRecDepth 1000000 in
theorem f2_b28 : (ev_hg h_wb2 83).2[0]? = some (0, 0, 0) ∧ (∀ j, j < 4 → lw_el (ev_hg h_wb2 104) j = if j / 2 = 0 then (0, 2 / 2 ^ (j % 2) % 2, 0) else (11, 2147483648, 2147483649)) ∧ (ev_hg h_wb2 83).1 = 10 ∧ (ev_hg h_wb2 104).1 = 52 ∧ ev_hg h_wb2 86 = (50, [(11, 2147483652, 2147483668), (11, 2147483648 + 4 * 0, 2147483668)]) := by decide +kernel
theorem f2_b2W : lw_W h_wb0 h_wb2 0 2 := ⟨f2_b2ok, f2_b25.1, f2_b25.2.1, f2_b25.2.2.1, f2_b25.2.2.2, fun k k1 k2 => f2_b26 k k2 k1, f2_b27, f2_b28.1, f2_b28.2.1, f2_b28.2.2.1, f2_b28.2.2.2.1, f2_b28.2.2.2.2⟩
set_option maxRecDepth 1000000 in
theorem f2_b29 : e2_idh 0 8 (e2_gset h_wb2 83 22 (0, 0, 0)) = true ∧ e2_idh 1 8 h_wb2 = true := by decide +kernel
set_option maxRecDepth 1000000 in
theorem f2_b210x : ∀ k, k < 133 → 83 ≤ k → k ≠ 83 → k ≠ 88 → k ≠ 97 → ev_ceq (ev_hg h_lb2 k) (ev_hg h_wb2 k) = true := by decide +kernel
theorem f2_b210 : ∀ k, k < 133 → 83 ≤ k → k ≠ 83 → k ≠ 88 → k ≠ 97 → ev_hg h_lb2 k = ev_hg h_wb2 k := fun k h0 h1 h2 h3 h4 => f0_ceq (f2_b210x k h0 h1 h2 h3 h4)
set_option maxRecDepth 1000000 in
theorem f2_b211 : ev_hg h_lb2 83 = (10, ((ev_hg h_wb2 83).2.set 6 (1, 2, 4294967296)).set 34 (1, 3, 4294967296)) ∧ ev_hg h_lb2 88 = (50, (List.replicate 2 (11, 2147483648, 2147483656)).set 0 (1, 1, 4294967296)) ∧ ev_hg h_lb2 97 = (50, lw_l97 0) := by decide +kernel
set_option maxRecDepth 1000000 in
theorem f2_b212x : ∀ k, k < 133 → ¬ (83 ≤ k ∧ k < 133) → ev_ceq (ev_hg h_lb2 k) ((100 + k, [])) = true := by decide +kernel
theorem f2_b212 : ∀ k, k < 133 → ¬ (83 ≤ k ∧ k < 133) → ev_hg h_lb2 k = (100 + k, []) := fun k h0 h1 => f0_ceq (f2_b212x k h0 h1)
theorem f2_b2N : lw_okN h_lb2 h_wb2 0 := ⟨fun k k1 k2 => f2_b210 k k2 k1, f2_b211.1, f2_b211.2.1, f2_b211.2.2, f2_b212⟩
set_option maxRecDepth 1000000 in
theorem f2_b31 : ev_hg h_wb3 83 = (10, (ev_hg h_wb3 83).2) ∧ (ev_hg h_wb3 83).2[6]? = some (11, 2147483648, 2147483688) ∧ (ev_hg h_wb3 83).2[34]? = some (11, 2147483648, 2147483688) := by decide +kernel
set_option maxRecDepth 1000000 in
theorem f2_b32 : ev_hg h_wb3 88 = (50, List.replicate 2 (11, 2147483648, 2147483656)) ∧ ev_hg h_wb3 97 = (50, List.replicate 16 (11, 2147483648, 2147483654)) ∧ ev_hg h_wb3 107 = (60 + 10 * 0 + 3, []) ∧ ev_hg h_wb3 101 = (64 + 10 * 0, []) ∧ ev_hg h_wb3 102 = (65 + 10 * 0, []) ∧ ev_hg h_wb3 118 = (66, []) := by decide +kernel
set_option maxRecDepth 1000000 in
theorem f2_b33x : ∀ k, k < 133 → (Nat.blt k 83 || (Nat.beq k 107 || (Nat.beq k 101 || (Nat.beq k 102 || (Nat.beq k 118 || Nat.blt (ev_hg h_wb3 k).1 60))))) = true := by decide +kernel
theorem f2_b33 : ∀ k, k < 133 → 83 ≤ k → k ≠ 107 → k ≠ 101 → k ≠ 102 → k ≠ 118 → (ev_hg h_wb3 k).1 < 60 := fun k h0 h1 h2 h3 h4 h5 => Nat.le_of_ble_eq_true (f0_or (f0_or (f0_or (f0_or (f0_or (f2_b33x k h0) (sy_blt_f h1)) (f0_beq h2)) (f0_beq h3)) (f0_beq h4)) (f0_beq h5))
set_option maxRecDepth 1000000 in
theorem f2_b34x : ∀ k, k < 133 → ¬ (83 ≤ k ∧ k < 133) → ev_ceq (ev_hg h_wb3 k) ((100 + k, [])) = true := by decide +kernel
theorem f2_b34 : ∀ k, k < 133 → ¬ (83 ≤ k ∧ k < 133) → ev_hg h_wb3 k = (100 + k, []) := fun k h0 h1 => f0_ceq (f2_b34x k h0 h1)
theorem f2_b3ok : lw_okW h_wb3 0 3 := ⟨⟨_, f2_b31⟩, f2_b32.1, f2_b32.2.1, f2_b32.2.2.1, f2_b32.2.2.2.1, f2_b32.2.2.2.2.1, f2_b32.2.2.2.2.2, fun k k1 k2 => f2_b33 k k2 k1, f2_b34⟩
set_option maxRecDepth 1000000 in
theorem f2_b35 : lw_kB h_wb3 = true ∧ lw_kO h_wb3 = true ∧ (ev_hg h_wb3 83).2.length = 80 ∧ (ev_hg h_wb3 83).2[42]? = some (5, 0, 0) := by decide +kernel
set_option maxRecDepth 1000000 in
theorem f2_b36x : ∀ k, k < 133 → (Nat.blt k 84 || (Nat.beq k 86 || (Nat.beq k 104 || (Nat.beq k 107 || (Nat.beq k 101 || (Nat.beq k 102 || ev_ceq (ev_hg h_wb3 k) (ev_hg h_wb0 k))))))) = true := by decide +kernel
theorem f2_b36 : ∀ k, k < 133 → 84 ≤ k ∧ k ≠ 86 → k ≠ 104 → k ≠ 107 → k ≠ 101 → k ≠ 102 → ev_hg h_wb3 k = ev_hg h_wb0 k := fun k h0 h1 h2 h3 h4 h5 => f0_ceq (f0_or (f0_or (f0_or (f0_or (f0_or (f0_or (f2_b36x k h0) (sy_blt_f h1.1)) (f0_beq h1.2)) (f0_beq h2)) (f0_beq h3)) (f0_beq h4)) (f0_beq h5))
set_option maxRecDepth 1000000 in
theorem f2_b37 : ∀ j, j < 80 → j ≠ 0 → (ev_hg h_wb3 83).2[j]? = (ev_hg h_wb0 83).2[j]? := by decide +kernel
set_option maxRecDepth 1000000 in
theorem f2_b38 : (ev_hg h_wb3 83).2[0]? = some (0, 0, 0) ∧ (∀ j, j < 4 → lw_el (ev_hg h_wb3 104) j = if j / 2 = 0 then (0, 3 / 2 ^ (j % 2) % 2, 0) else (11, 2147483648, 2147483649)) ∧ (ev_hg h_wb3 83).1 = 10 ∧ (ev_hg h_wb3 104).1 = 52 ∧ ev_hg h_wb3 86 = (50, [(11, 2147483652, 2147483668), (11, 2147483648 + 4 * 0, 2147483668)]) := by decide +kernel
theorem f2_b3W : lw_W h_wb0 h_wb3 0 3 := ⟨f2_b3ok, f2_b35.1, f2_b35.2.1, f2_b35.2.2.1, f2_b35.2.2.2, fun k k1 k2 => f2_b36 k k2 k1, f2_b37, f2_b38.1, f2_b38.2.1, f2_b38.2.2.1, f2_b38.2.2.2.1, f2_b38.2.2.2.2⟩
set_option maxRecDepth 1000000 in
theorem f2_b39 : e2_idh 0 8 (e2_gset h_wb3 83 22 (0, 0, 0)) = true ∧ e2_idh 1 8 h_wb3 = true := by decide +kernel
set_option maxRecDepth 1000000 in
theorem f2_b310x : ∀ k, k < 133 → 83 ≤ k → k ≠ 83 → k ≠ 88 → k ≠ 97 → ev_ceq (ev_hg h_lb3 k) (ev_hg h_wb3 k) = true := by decide +kernel
theorem f2_b310 : ∀ k, k < 133 → 83 ≤ k → k ≠ 83 → k ≠ 88 → k ≠ 97 → ev_hg h_lb3 k = ev_hg h_wb3 k := fun k h0 h1 h2 h3 h4 => f0_ceq (f2_b310x k h0 h1 h2 h3 h4)
set_option maxRecDepth 1000000 in
theorem f2_b311 : ev_hg h_lb3 83 = (10, ((ev_hg h_wb3 83).2.set 6 (1, 2, 4294967296)).set 34 (1, 3, 4294967296)) ∧ ev_hg h_lb3 88 = (50, (List.replicate 2 (11, 2147483648, 2147483656)).set 0 (1, 1, 4294967296)) ∧ ev_hg h_lb3 97 = (50, lw_l97 0) := by decide +kernel
set_option maxRecDepth 1000000 in
theorem f2_b312x : ∀ k, k < 133 → ¬ (83 ≤ k ∧ k < 133) → ev_ceq (ev_hg h_lb3 k) ((100 + k, [])) = true := by decide +kernel
theorem f2_b312 : ∀ k, k < 133 → ¬ (83 ≤ k ∧ k < 133) → ev_hg h_lb3 k = (100 + k, []) := fun k h0 h1 => f0_ceq (f2_b312x k h0 h1)
theorem f2_b3N : lw_okN h_lb3 h_wb3 0 := ⟨fun k k1 k2 => f2_b310 k k2 k1, f2_b311.1, f2_b311.2.1, f2_b311.2.2, f2_b312⟩
