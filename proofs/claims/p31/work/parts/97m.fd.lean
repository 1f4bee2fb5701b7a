/-! CLOSED FACTS OF THE PRINTED HEAPS: the reference, bank 1 -/
set_option maxRecDepth 1000000 in
theorem f2_d01 : ev_hg h_wd0 83 = (10, (ev_hg h_wd0 83).2) ∧ (ev_hg h_wd0 83).2[6]? = some (11, 2147483648, 2147483688) ∧ (ev_hg h_wd0 83).2[34]? = some (11, 2147483648, 2147483688) := by decide +kernel
set_option maxRecDepth 1000000 in
theorem f2_d02 : ev_hg h_wd0 88 = (50, List.replicate 2 (11, 2147483648, 2147483656)) ∧ ev_hg h_wd0 97 = (50, List.replicate 16 (11, 2147483648, 2147483654)) ∧ ev_hg h_wd0 107 = (60 + 10 * 1 + 0, []) ∧ ev_hg h_wd0 101 = (64 + 10 * 1, []) ∧ ev_hg h_wd0 102 = (65 + 10 * 1, []) ∧ ev_hg h_wd0 118 = (66, []) := by decide +kernel
set_option maxRecDepth 1000000 in
theorem f2_d03x : ∀ k, k < 133 → (Nat.blt k 83 || (Nat.beq k 107 || (Nat.beq k 101 || (Nat.beq k 102 || (Nat.beq k 118 || Nat.blt (ev_hg h_wd0 k).1 60))))) = true := by decide +kernel
theorem f2_d03 : ∀ k, k < 133 → 83 ≤ k → k ≠ 107 → k ≠ 101 → k ≠ 102 → k ≠ 118 → (ev_hg h_wd0 k).1 < 60 := fun k h0 h1 h2 h3 h4 h5 => Nat.le_of_ble_eq_true (f0_or (f0_or (f0_or (f0_or (f0_or (f2_d03x k h0) (sy_blt_f h1)) (f0_beq h2)) (f0_beq h3)) (f0_beq h4)) (f0_beq h5))
set_option maxRecDepth 1000000 in
theorem f2_d04x : ∀ k, k < 133 → ¬ (83 ≤ k ∧ k < 133) → ev_ceq (ev_hg h_wd0 k) ((100 + k, [])) = true := by decide +kernel
theorem f2_d04 : ∀ k, k < 133 → ¬ (83 ≤ k ∧ k < 133) → ev_hg h_wd0 k = (100 + k, []) := fun k h0 h1 => f0_ceq (f2_d04x k h0 h1)
theorem f2_d0ok : lw_okW h_wd0 1 0 := ⟨⟨_, f2_d01⟩, f2_d02.1, f2_d02.2.1, f2_d02.2.2.1, f2_d02.2.2.2.1, f2_d02.2.2.2.2.1, f2_d02.2.2.2.2.2, fun k k1 k2 => f2_d03 k k2 k1, f2_d04⟩
set_option maxRecDepth 1000000 in
theorem f2_d05 : lw_kB h_wd0 = true ∧ lw_kO h_wd0 = true ∧ (ev_hg h_wd0 83).2.length = 80 ∧ (ev_hg h_wd0 83).2[42]? = some (5, 0, 0) := by decide +kernel
set_option maxRecDepth 1000000 in
theorem f2_d06x : ∀ k, k < 133 → (Nat.blt k 84 || (Nat.beq k 86 || (Nat.beq k 104 || (Nat.beq k 107 || (Nat.beq k 101 || (Nat.beq k 102 || ev_ceq (ev_hg h_wd0 k) (ev_hg h_wb0 k))))))) = true := by decide +kernel
theorem f2_d06 : ∀ k, k < 133 → 84 ≤ k ∧ k ≠ 86 → k ≠ 104 → k ≠ 107 → k ≠ 101 → k ≠ 102 → ev_hg h_wd0 k = ev_hg h_wb0 k := fun k h0 h1 h2 h3 h4 h5 => f0_ceq (f0_or (f0_or (f0_or (f0_or (f0_or (f0_or (f2_d06x k h0) (sy_blt_f h1.1)) (f0_beq h1.2)) (f0_beq h2)) (f0_beq h3)) (f0_beq h4)) (f0_beq h5))
set_option maxRecDepth 1000000 in
theorem f2_d07 : ∀ j, j < 80 → j ≠ 0 → (ev_hg h_wd0 83).2[j]? = (ev_hg h_wb0 83).2[j]? := by decide +kernel
set_option maxRecDepth 1000000 in
theorem f2_d08 : (ev_hg h_wd0 83).2[0]? = some (0, 1, 0) ∧ (∀ j, j < 4 → lw_el (ev_hg h_wd0 104) j = if j / 2 = 1 then (0, 0 / 2 ^ (j % 2) % 2, 0) else (11, 2147483648, 2147483649)) ∧ (ev_hg h_wd0 83).1 = 10 ∧ (ev_hg h_wd0 104).1 = 52 ∧ ev_hg h_wd0 86 = (50, [(11, 2147483652, 2147483668), (11, 2147483648 + 4 * 1, 2147483668)]) := by decide +kernel
theorem f2_d0W : lw_W h_wb0 h_wd0 1 0 := ⟨f2_d0ok, f2_d05.1, f2_d05.2.1, f2_d05.2.2.1, f2_d05.2.2.2, fun k k1 k2 => f2_d06 k k2 k1, f2_d07, f2_d08.1, f2_d08.2.1, f2_d08.2.2.1, f2_d08.2.2.2.1, f2_d08.2.2.2.2⟩
set_option maxRecDepth 1000000 in
theorem f2_d09 : e2_idh 0 8 (e2_gset h_wd0 83 22 (0, 0, 0)) = true ∧ e2_idh 1 8 h_wd0 = true := by decide +kernel
set_option maxRecDepth 1000000 in
theorem f2_d010x : ∀ k, k < 133 → 83 ≤ k → k ≠ 83 → k ≠ 88 → k ≠ 97 → ev_ceq (ev_hg h_ld0 k) (ev_hg h_wd0 k) = true := by decide +kernel
theorem f2_d010 : ∀ k, k < 133 → 83 ≤ k → k ≠ 83 → k ≠ 88 → k ≠ 97 → ev_hg h_ld0 k = ev_hg h_wd0 k := fun k h0 h1 h2 h3 h4 => f0_ceq (f2_d010x k h0 h1 h2 h3 h4)
set_option maxRecDepth 1000000 in
theorem f2_d011 : ev_hg h_ld0 83 = (10, ((ev_hg h_wd0 83).2.set 6 (1, 2, 4294967296)).set 34 (1, 3, 4294967296)) ∧ ev_hg h_ld0 88 = (50, (List.replicate 2 (11, 2147483648, 2147483656)).set 1 (1, 1, 4294967296)) ∧ ev_hg h_ld0 97 = (50, lw_l97 1) := by decide +kernel
set_option maxRecDepth 1000000 in
theorem f2_d012x : ∀ k, k < 133 → ¬ (83 ≤ k ∧ k < 133) → ev_ceq (ev_hg h_ld0 k) ((100 + k, [])) = true := by decide +kernel
theorem f2_d012 : ∀ k, k < 133 → ¬ (83 ≤ k ∧ k < 133) → ev_hg h_ld0 k = (100 + k, []) := fun k h0 h1 => f0_ceq (f2_d012x k h0 h1)
theorem f2_d0N : lw_okN h_ld0 h_wd0 1 := ⟨fun k k1 k2 => f2_d010 k k2 k1, f2_d011.1, f2_d011.2.1, f2_d011.2.2, f2_d012⟩
set_option maxRecDepth 1000000 in
theorem f2_d11 : ev_hg h_wd1 83 = (10, (ev_hg h_wd1 83).2) ∧ (ev_hg h_wd1 83).2[6]? = some (11, 2147483648, 2147483688) ∧ (ev_hg h_wd1 83).2[34]? = some (11, 2147483648, 2147483688) := by decide +kernel
set_option maxRecDepth 1000000 in
theorem f2_d12 : ev_hg h_wd1 88 = (50, List.replicate 2 (11, 2147483648, 2147483656)) ∧ ev_hg h_wd1 97 = (50, List.replicate 16 (11, 2147483648, 2147483654)) ∧ ev_hg h_wd1 107 = (60 + 10 * 1 + 1, []) ∧ ev_hg h_wd1 101 = (64 + 10 * 1, []) ∧ ev_hg h_wd1 102 = (65 + 10 * 1, []) ∧ ev_hg h_wd1 118 = (66, []) := by decide +kernel
set_option maxRecDepth 1000000 in
theorem f2_d13x : ∀ k, k < 133 → (Nat.blt k 83 || (Nat.beq k 107 || (Nat.beq k 101 || (Nat.beq k 102 || (Nat.beq k 118 || Nat.blt (ev_hg h_wd1 k).1 60))))) = true := by decide +kernel
theorem f2_d13 : ∀ k, k < 133 → 83 ≤ k → k ≠ 107 → k ≠ 101 → k ≠ 102 → k ≠ 118 → (ev_hg h_wd1 k).1 < 60 := fun k h0 h1 h2 h3 h4 h5 => Nat.le_of_ble_eq_true (f0_or (f0_or (f0_or (f0_or (f0_or (f2_d13x k h0) (sy_blt_f h1)) (f0_beq h2)) (f0_beq h3)) (f0_beq h4)) (f0_beq h5))
set_option maxRecDepth 1000000 in
theorem f2_d14x : ∀ k, k < 133 → ¬ (83 ≤ k ∧ k < 133) → ev_ceq (ev_hg h_wd1 k) ((100 + k, [])) = true := by decide +kernel
theorem f2_d14 : ∀ k, k < 133 → ¬ (83 ≤ k ∧ k < 133) → ev_hg h_wd1 k = (100 + k, []) := fun k h0 h1 => f0_ceq (f2_d14x k h0 h1)
theorem f2_d1ok : lw_okW h_wd1 1 1 := ⟨⟨_, f2_d11⟩, f2_d12.1, f2_d12.2.1, f2_d12.2.2.1, f2_d12.2.2.2.1, f2_d12.2.2.2.2.1, f2_d12.2.2.2.2.2, fun k k1 k2 => f2_d13 k k2 k1, f2_d14⟩
set_option maxRecDepth 1000000 in
theorem f2_d15 : lw_kB h_wd1 = true ∧ lw_kO h_wd1 = true ∧ (ev_hg h_wd1 83).2.length = 80 ∧ (ev_hg h_wd1 83).2[42]? = some (5, 0, 0) := by decide +kernel
set_option maxRecDepth 1000000 in
theorem f2_d16x : ∀ k, k < 133 → (Nat.blt k 84 || (Nat.beq k 86 || (Nat.beq k 104 || (Nat.beq k 107 || (Nat.beq k 101 || (Nat.beq k 102 || ev_ceq (ev_hg h_wd1 k) (ev_hg h_wb0 k))))))) = true := by decide +kernel
theorem f2_d16 : ∀ k, k < 133 → 84 ≤ k ∧ k ≠ 86 → k ≠ 104 → k ≠ 107 → k ≠ 101 → k ≠ 102 → ev_hg h_wd1 k = ev_hg h_wb0 k := fun k h0 h1 h2 h3 h4 h5 => f0_ceq (f0_or (f0_or (f0_or (f0_or (f0_or (f0_or (f2_d16x k h0) (sy_blt_f h1.1)) (f0_beq h1.2)) (f0_beq h2)) (f0_beq h3)) (f0_beq h4)) (f0_beq h5))
set_option maxRecDepth 1000000 in
theorem f2_d17 : ∀ j, j < 80 → j ≠ 0 → (ev_hg h_wd1 83).2[j]? = (ev_hg h_wb0 83).2[j]? := by decide +kernel
set_option maxRecDepth 1000000 in
theorem f2_d18 : (ev_hg h_wd1 83).2[0]? = some (0, 1, 0) ∧ (∀ j, j < 4 → lw_el (ev_hg h_wd1 104) j = if j / 2 = 1 then (0, 1 / 2 ^ (j % 2) % 2, 0) else (11, 2147483648, 2147483649)) ∧ (ev_hg h_wd1 83).1 = 10 ∧ (ev_hg h_wd1 104).1 = 52 ∧ ev_hg h_wd1 86 = (50, [(11, 2147483652, 2147483668), (11, 2147483648 + 4 * 1, 2147483668)]) := by decide +kernel
theorem f2_d1W : lw_W h_wb0 h_wd1 1 1 := ⟨f2_d1ok, f2_d15.1, f2_d15.2.1, f2_d15.2.2.1, f2_d15.2.2.2, fun k k1 k2 => f2_d16 k k2 k1, f2_d17, f2_d18.1, f2_d18.2.1, f2_d18.2.2.1, f2_d18.2.2.2.1, f2_d18.2.2.2.2⟩
set_option maxRecDepth 1000000 in
theorem f2_d19 : e2_idh 0 8 (e2_gset h_wd1 83 22 (0, 0, 0)) = true ∧ e2_idh 1 8 h_wd1 = true := by decide +kernel
set_option maxRecDepth 1000000 in
theorem f2_d110x : ∀ k, k < 133 → 83 ≤ k → k ≠ 83 → k ≠ 88 → k ≠ 97 → ev_ceq (ev_hg h_ld1 k) (ev_hg h_wd1 k) = true := by decide +kernel
theorem f2_d110 : ∀ k, k < 133 → 83 ≤ k → k ≠ 83 → k ≠ 88 → k ≠ 97 → ev_hg h_ld1 k = ev_hg h_wd1 k := fun k h0 h1 h2 h3 h4 => f0_ceq (f2_d110x k h0 h1 h2 h3 h4)
set_option maxRecDepth 1000000 in
theorem f2_d111 : ev_hg h_ld1 83 = (10, ((ev_hg h_wd1 83).2.set 6 (1, 2, 4294967296)).set 34 (1, 3, 4294967296)) ∧ ev_hg h_ld1 88 = (50, (List.replicate 2 (11, 2147483648, 2147483656)).set 1 (1, 1, 4294967296)) ∧ ev_hg h_ld1 97 = (50, lw_l97 1) := by decide +kernel
set_option maxRecDepth 1000000 in
theorem f2_d112x : ∀ k, k < 133 → ¬ (83 ≤ k ∧ k < 133) → ev_ceq (ev_hg h_ld1 k) ((100 + k, [])) = true := by decide +kernel
theorem f2_d112 : ∀ k, k < 133 → ¬ (83 ≤ k ∧ k < 133) → ev_hg h_ld1 k = (100 + k, []) := fun k h0 h1 => f0_ceq (f2_d112x k h0 h1)
theorem f2_d1N : lw_okN h_ld1 h_wd1 1 := ⟨fun k k1 k2 => f2_d110 k k2 k1, f2_d111.1, f2_d111.2.1, f2_d111.2.2, f2_d112⟩
set_option maxRecDepth 1000000 in
theorem f2_d21 : ev_hg h_wd2 83 = (10, (ev_hg h_wd2 83).2) ∧ (ev_hg h_wd2 83).2[6]? = some (11, 2147483648, 2147483688) ∧ (ev_hg h_wd2 83).2[34]? = some (11, 2147483648, 2147483688) := by decide +kernel
set_option maxRecDepth 1000000 in
theorem f2_d22 : ev_hg h_wd2 88 = (50, List.replicate 2 (11, 2147483648, 2147483656)) ∧ ev_hg h_wd2 97 = (50, List.replicate 16 (11, 2147483648, 2147483654)) ∧ ev_hg h_wd2 107 = (60 + 10 * 1 + 2, []) ∧ ev_hg h_wd2 101 = (64 + 10 * 1, []) ∧ ev_hg h_wd2 102 = (65 + 10 * 1, []) ∧ ev_hg h_wd2 118 = (66, []) := by decide +kernel
set_option maxRecDepth 1000000 in
theorem f2_d23x : ∀ k, k < 133 → (Nat.blt k 83 || (Nat.beq k 107 || (Nat.beq k 101 || (Nat.beq k 102 || (Nat.beq k 118 || Nat.blt (ev_hg h_wd2 k).1 60))))) = true := by decide +kernel
theorem f2_d23 : ∀ k, k < 133 → 83 ≤ k → k ≠ 107 → k ≠ 101 → k ≠ 102 → k ≠ 118 → (ev_hg h_wd2 k).1 < 60 := fun k h0 h1 h2 h3 h4 h5 => Nat.le_of_ble_eq_true (f0_or (f0_or (f0_or (f0_or (f0_or (f2_d23x k h0) (sy_blt_f h1)) (f0_beq h2)) (f0_beq h3)) (f0_beq h4)) (f0_beq h5))
set_option maxRecDepth 1000000 in
theorem f2_d24x : ∀ k, k < 133 → ¬ (83 ≤ k ∧ k < 133) → ev_ceq (ev_hg h_wd2 k) ((100 + k, [])) = true := by decide +kernel
theorem f2_d24 : ∀ k, k < 133 → ¬ (83 ≤ k ∧ k < 133) → ev_hg h_wd2 k = (100 + k, []) := fun k h0 h1 => f0_ceq (f2_d24x k h0 h1)
theorem f2_d2ok : lw_okW h_wd2 1 2 := ⟨⟨_, f2_d21⟩, f2_d22.1, f2_d22.2.1, f2_d22.2.2.1, f2_d22.2.2.2.1, f2_d22.2.2.2.2.1, f2_d22.2.2.2.2.2, fun k k1 k2 => f2_d23 k k2 k1, f2_d24⟩
set_option maxRecDepth 1000000 in
theorem f2_d25 : lw_kB h_wd2 = true ∧ lw_kO h_wd2 = true ∧ (ev_hg h_wd2 83).2.length = 80 ∧ (ev_hg h_wd2 83).2[42]? = some (5, 0, 0) := by decide +kernel
set_option maxRecDepth 1000000 in
theorem f2_d26x : ∀ k, k < 133 → (Nat.blt k 84 || (Nat.beq k 86 || (Nat.beq k 104 || (Nat.beq k 107 || (Nat.beq k 101 || (Nat.beq k 102 || ev_ceq (ev_hg h_wd2 k) (ev_hg h_wb0 k))))))) = true := by decide +kernel
theorem f2_d26 : ∀ k, k < 133 → 84 ≤ k ∧ k ≠ 86 → k ≠ 104 → k ≠ 107 → k ≠ 101 → k ≠ 102 → ev_hg h_wd2 k = ev_hg h_wb0 k := fun k h0 h1 h2 h3 h4 h5 => f0_ceq (f0_or (f0_or (f0_or (f0_or (f0_or (f0_or (f2_d26x k h0) (sy_blt_f h1.1)) (f0_beq h1.2)) (f0_beq h2)) (f0_beq h3)) (f0_beq h4)) (f0_beq h5))
set_option maxRecDepth 1000000 in
theorem f2_d27 : ∀ j, j < 80 → j ≠ 0 → (ev_hg h_wd2 83).2[j]? = (ev_hg h_wb0 83).2[j]? := by decide +kernel
set_option maxRecDepth 1000000 in
theorem f2_d28 : (ev_hg h_wd2 83).2[0]? = some (0, 1, 0) ∧ (∀ j, j < 4 → lw_el (ev_hg h_wd2 104) j = if j / 2 = 1 then (0, 2 / 2 ^ (j % 2) % 2, 0) else (11, 2147483648, 2147483649)) ∧ (ev_hg h_wd2 83).1 = 10 ∧ (ev_hg h_wd2 104).1 = 52 ∧ ev_hg h_wd2 86 = (50, [(11, 2147483652, 2147483668), (11, 2147483648 + 4 * 1, 2147483668)]) := by decide +kernel
theorem f2_d2W : lw_W h_wb0 h_wd2 1 2 := ⟨f2_d2ok, f2_d25.1, f2_d25.2.1, f2_d25.2.2.1, f2_d25.2.2.2, fun k k1 k2 => f2_d26 k k2 k1, f2_d27, f2_d28.1, f2_d28.2.1, f2_d28.2.2.1, f2_d28.2.2.2.1, f2_d28.2.2.2.2⟩
set_option maxRecDepth 1000000 in
theorem f2_d29 : e2_idh 0 8 (e2_gset h_wd2 83 22 (0, 0, 0)) = true ∧ e2_idh 1 8 h_wd2 = true := by decide +kernel
set_option maxRecDepth 1000000 in
theorem f2_d210x : ∀ k, k < 133 → 83 ≤ k → k ≠ 83 → k ≠ 88 → k ≠ 97 → ev_ceq (ev_hg h_ld2 k) (ev_hg h_wd2 k) = true := by decide +kernel
theorem f2_d210 : ∀ k, k < 133 → 83 ≤ k → k ≠ 83 → k ≠ 88 → k ≠ 97 → ev_hg h_ld2 k = ev_hg h_wd2 k := fun k h0 h1 h2 h3 h4 => f0_ceq (f2_d210x k h0 h1 h2 h3 h4)
set_option maxRecDepth 1000000 in
theorem f2_d211 : ev_hg h_ld2 83 = (10, ((ev_hg h_wd2 83).2.set 6 (1, 2, 4294967296)).set 34 (1, 3, 4294967296)) ∧ ev_hg h_ld2 88 = (50, (List.replicate 2 (11, 2147483648, 2147483656)).set 1 (1, 1, 4294967296)) ∧ ev_hg h_ld2 97 = (50, lw_l97 1) := by decide +kernel
set_option maxRecDepth 1000000 in
theorem f2_d212x : ∀ k, k < 133 → ¬ (83 ≤ k ∧ k < 133) → ev_ceq (ev_hg h_ld2 k) ((100 + k, [])) = true := by decide +kernel
theorem f2_d212 : ∀ k, k < 133 → ¬ (83 ≤ k ∧ k < 133) → ev_hg h_ld2 k = (100 + k, []) := fun k h0 h1 => f0_ceq (f2_d212x k h0 h1)
theorem f2_d2N : lw_okN h_ld2 h_wd2 1 := ⟨fun k k1 k2 => f2_d210 k k2 k1, f2_d211.1, f2_d211.2.1, f2_d211.2.2, f2_d212⟩
set_option maxRecDepth 1000000 in
theorem f2_d31 : ev_hg h_wd3 83 = (10, (ev_hg h_wd3 83).2) ∧ (ev_hg h_wd3 83).2[6]? = some (11, 2147483648, 2147483688) ∧ (ev_hg h_wd3 83).2[34]? = some (11, 2147483648, 2147483688) := by decide +kernel
set_option maxRecDepth 1000000 in
theorem f2_d32 : ev_hg h_wd3 88 = (50, List.replicate 2 (11, 2147483648, 2147483656)) ∧ ev_hg h_wd3 97 = (50, List.replicate 16 (11, 2147483648, 2147483654)) ∧ ev_hg h_wd3 107 = (60 + 10 * 1 + 3, []) ∧ ev_hg h_wd3 101 = (64 + 10 * 1, []) ∧ ev_hg h_wd3 102 = (65 + 10 * 1, []) ∧ ev_hg h_wd3 118 = (66, []) := by decide +kernel
set_option maxRecDepth 1000000 in
theorem f2_d33x : ∀ k, k < 133 → (Nat.blt k 83 || (Nat.beq k 107 || (Nat.beq k 101 || (Nat.beq k 102 || (Nat.beq k 118 || Nat.blt (ev_hg h_wd3 k).1 60))))) = true := by decide +kernel
theorem f2_d33 : ∀ k, k < 133 → 83 ≤ k → k ≠ 107 → k ≠ 101 → k ≠ 102 → k ≠ 118 → (ev_hg h_wd3 k).1 < 60 := fun k h0 h1 h2 h3 h4 h5 => Nat.le_of_ble_eq_true (f0_or (f0_or (f0_or (f0_or (f0_or (f2_d33x k h0) (sy_blt_f h1)) (f0_beq h2)) (f0_beq h3)) (f0_beq h4)) (f0_beq h5))
set_option maxRecDepth 1000000 in
theorem f2_d34x : ∀ k, k < 133 → ¬ (83 ≤ k ∧ k < 133) → ev_ceq (ev_hg h_wd3 k) ((100 + k, [])) = true := by decide +kernel
theorem f2_d34 : ∀ k, k < 133 → ¬ (83 ≤ k ∧ k < 133) → ev_hg h_wd3 k = (100 + k, []) := fun k h0 h1 => f0_ceq (f2_d34x k h0 h1)
theorem f2_d3ok : lw_okW h_wd3 1 3 := ⟨⟨_, f2_d31⟩, f2_d32.1, f2_d32.2.1, f2_d32.2.2.1, f2_d32.2.2.2.1, f2_d32.2.2.2.2.1, f2_d32.2.2.2.2.2, fun k k1 k2 => f2_d33 k k2 k1, f2_d34⟩
set_option maxRecDepth 1000000 in
theorem f2_d35 : lw_kB h_wd3 = true ∧ lw_kO h_wd3 = true ∧ (ev_hg h_wd3 83).2.length = 80 ∧ (ev_hg h_wd3 83).2[42]? = some (5, 0, 0) := by decide +kernel
set_option maxRecDepth 1000000 in
theorem f2_d36x : ∀ k, k < 133 → (Nat.blt k 84 || (Nat.beq k 86 || (Nat.beq k 104 || (Nat.beq k 107 || (Nat.beq k 101 || (Nat.beq k 102 || ev_ceq (ev_hg h_wd3 k) (ev_hg h_wb0 k))))))) = true := by decide +kernel
theorem f2_d36 : ∀ k, k < 133 → 84 ≤ k ∧ k ≠ 86 → k ≠ 104 → k ≠ 107 → k ≠ 101 → k ≠ 102 → ev_hg h_wd3 k = ev_hg h_wb0 k := fun k h0 h1 h2 h3 h4 h5 => f0_ceq (f0_or (f0_or (f0_or (f0_or (f0_or (f0_or (f2_d36x k h0) (sy_blt_f h1.1)) (f0_beq h1.2)) (f0_beq h2)) (f0_beq h3)) (f0_beq h4)) (f0_beq h5))
set_option maxRecDepth 1000000 in
theorem f2_d37 : ∀ j, j < 80 → j ≠ 0 → (ev_hg h_wd3 83).2[j]? = (ev_hg h_wb0 83).2[j]? := by decide +kernel
set_option maxRecDepth 1000000 in
theorem f2_d38 : (ev_hg h_wd3 83).2[0]? = some (0, 1, 0) ∧ (∀ j, j < 4 → lw_el (ev_hg h_wd3 104) j = if j / 2 = 1 then (0, 3 / 2 ^ (j % 2) % 2, 0) else (11, 2147483648, 2147483649)) ∧ (ev_hg h_wd3 83).1 = 10 ∧ (ev_hg h_wd3 104).1 = 52 ∧ ev_hg h_wd3 86 = (50, [(11, 2147483652, 2147483668), (11, 2147483648 + 4 * 1, 2147483668)]) := by decide +kernel
theorem f2_d3W : lw_W h_wb0 h_wd3 1 3 := ⟨f2_d3ok, f2_d35.1, f2_d35.2.1, f2_d35.2.2.1, f2_d35.2.2.2, fun k k1 k2 => f2_d36 k k2 k1, f2_d37, f2_d38.1, f2_d38.2.1, f2_d38.2.2.1, f2_d38.2.2.2.1, f2_d38.2.2.2.2⟩
set_option maxRecDepth 1000000 in
theorem f2_d39 : e2_idh 0 8 (e2_gset h_wd3 83 22 (0, 0, 0)) = true ∧ e2_idh 1 8 h_wd3 = true := by decide +kernel
set_option maxRecDepth 1000000 in
theorem f2_d310x : ∀ k, k < 133 → 83 ≤ k → k ≠ 83 → k ≠ 88 → k ≠ 97 → ev_ceq (ev_hg h_ld3 k) (ev_hg h_wd3 k) = true := by decide +kernel
theorem f2_d310 : ∀ k, k < 133 → 83 ≤ k → k ≠ 83 → k ≠ 88 → k ≠ 97 → ev_hg h_ld3 k = ev_hg h_wd3 k := fun k h0 h1 h2 h3 h4 => f0_ceq (f2_d310x k h0 h1 h2 h3 h4)
set_option maxRecDepth 1000000 in
theorem f2_d311 : ev_hg h_ld3 83 = (10, ((ev_hg h_wd3 83).2.set 6 (1, 2, 4294967296)).set 34 (1, 3, 4294967296)) ∧ ev_hg h_ld3 88 = (50, (List.replicate 2 (11, 2147483648, 2147483656)).set 1 (1, 1, 4294967296)) ∧ ev_hg h_ld3 97 = (50, lw_l97 1) := by decide +kernel
set_option maxRecDepth 1000000 in
theorem f2_d312x : ∀ k, k < 133 → ¬ (83 ≤ k ∧ k < 133) → ev_ceq (ev_hg h_ld3 k) ((100 + k, [])) = true := by decide +kernel
theorem f2_d312 : ∀ k, k < 133 → ¬ (83 ≤ k ∧ k < 133) → ev_hg h_ld3 k = (100 + k, []) := fun k h0 h1 => f0_ceq (f2_d312x k h0 h1)
theorem f2_d3N : lw_okN h_ld3 h_wd3 1 := ⟨fun k k1 k2 => f2_d310 k k2 k1, f2_d311.1, f2_d311.2.1, f2_d311.2.2, f2_d312⟩
