/-! THE CALLS OF THE REFERENCE, as the law wants them: bank 1 -/
set_option maxRecDepth 1000000 in
theorem g2_d0 : e2_idh 4 8 h_ld0 = true ∧ e2_hle E_lb 8 h_wd0 h_ld0 = true ∧ ev_hg h_ld0 88 = (50, (List.replicate 2 (11, 2147483648, 2147483656)).set 1 (1, 1, 4294967296)) ∧ ev_hg h_ld0 97 = (50, lw_l97 1) ∧ ev_hg h_ld0 83 = (10, (ev_hg h_ld0 83).2) ∧ (ev_hg h_ld0 83).2[6]? = some (1, 2, 4294967296) ∧ (ev_hg h_ld0 83).2[34]? = some (1, 3, 4294967296) := by decide +kernel
theorem gq_d0 : lw_qR 1 h_wd0 ((11, 0, 4294967295), h_ld0) := ⟨rfl, g2_d0.1, g2_d0.2.1, g2_d0.2.2.1, g2_d0.2.2.2.1, _, g2_d0.2.2.2.2.1, Or.inl g2_d0.2.2.2.2.2⟩
set_option maxRecDepth 1000000 in
theorem g2_d0k : e2_idh 4 8 h_ld0k = true ∧ e2_hle E_lb 8 h_wd0 h_ld0k = true ∧ ev_hg h_ld0k 88 = (50, (List.replicate 2 (11, 2147483648, 2147483656)).set 1 (1, 1, 4294967296)) ∧ ev_hg h_ld0k 97 = (50, lw_l97 1) ∧ ev_hg h_ld0k 83 = (10, (ev_hg h_ld0k 83).2) ∧ (ev_hg h_ld0k 83).2[6]? = some (11, 2147483648, 2147483688) ∧ (ev_hg h_ld0k 83).2[34]? = some (0, 0, 0) := by decide +kernel
theorem gq_d0k : lw_qR 1 h_wd0 ((11, 0, 4294967295), h_ld0k) := ⟨rfl, g2_d0k.1, g2_d0k.2.1, g2_d0k.2.2.1, g2_d0k.2.2.2.1, _, g2_d0k.2.2.2.2.1, Or.inr g2_d0k.2.2.2.2.2⟩
set_option maxRecDepth 1000000 in
theorem g2_d1 : e2_idh 4 8 h_ld1 = true ∧ e2_hle E_lb 8 h_wd1 h_ld1 = true ∧ ev_hg h_ld1 88 = (50, (List.replicate 2 (11, 2147483648, 2147483656)).set 1 (1, 1, 4294967296)) ∧ ev_hg h_ld1 97 = (50, lw_l97 1) ∧ ev_hg h_ld1 83 = (10, (ev_hg h_ld1 83).2) ∧ (ev_hg h_ld1 83).2[6]? = some (1, 2, 4294967296) ∧ (ev_hg h_ld1 83).2[34]? = some (1, 3, 4294967296) := by decide +kernel
theorem gq_d1 : lw_qR 1 h_wd1 ((11, 0, 4294967295), h_ld1) := ⟨rfl, g2_d1.1, g2_d1.2.1, g2_d1.2.2.1, g2_d1.2.2.2.1, _, g2_d1.2.2.2.2.1, Or.inl g2_d1.2.2.2.2.2⟩
set_option maxRecDepth 1000000 in
theorem g2_d1k : e2_idh 4 8 h_ld1k = true ∧ e2_hle E_lb 8 h_wd1 h_ld1k = true ∧ ev_hg h_ld1k 88 = (50, (List.replicate 2 (11, 2147483648, 2147483656)).set 1 (1, 1, 4294967296)) ∧ ev_hg h_ld1k 97 = (50, lw_l97 1) ∧ ev_hg h_ld1k 83 = (10, (ev_hg h_ld1k 83).2) ∧ (ev_hg h_ld1k 83).2[6]? = some (11, 2147483648, 2147483688) ∧ (ev_hg h_ld1k 83).2[34]? = some (0, 0, 0) := by decide +kernel
theorem gq_d1k : lw_qR 1 h_wd1 ((11, 0, 4294967295), h_ld1k) := ⟨rfl, g2_d1k.1, g2_d1k.2.1, g2_d1k.2.2.1, g2_d1k.2.2.2.1, _, g2_d1k.2.2.2.2.1, Or.inr g2_d1k.2.2.2.2.2⟩
set_option maxRecDepth 1000000 in
theorem g2_d2 : e2_idh 4 8 h_ld2 = true ∧ e2_hle E_lb 8 h_wd2 h_ld2 = true ∧ ev_hg h_ld2 88 = (50, (List.replicate 2 (11, 2147483648, 2147483656)).set 1 (1, 1, 4294967296)) ∧ ev_hg h_ld2 97 = (50, lw_l97 1) ∧ ev_hg h_ld2 83 = (10, (ev_hg h_ld2 83).2) ∧ (ev_hg h_ld2 83).2[6]? = some (1, 2, 4294967296) ∧ (ev_hg h_ld2 83).2[34]? = some (1, 3, 4294967296) := by decide +kernel
theorem gq_d2 : lw_qR 1 h_wd2 ((11, 0, 4294967295), h_ld2) := ⟨rfl, g2_d2.1, g2_d2.2.1, g2_d2.2.2.1, g2_d2.2.2.2.1, _, g2_d2.2.2.2.2.1, Or.inl g2_d2.2.2.2.2.2⟩
set_option maxRecDepth 1000000 in
theorem g2_d2k : e2_idh 4 8 h_ld2k = true ∧ e2_hle E_lb 8 h_wd2 h_ld2k = true ∧ ev_hg h_ld2k 88 = (50, (List.replicate 2 (11, 2147483648, 2147483656)).set 1 (1, 1, 4294967296)) ∧ ev_hg h_ld2k 97 = (50, lw_l97 1) ∧ ev_hg h_ld2k 83 = (10, (ev_hg h_ld2k 83).2) ∧ (ev_hg h_ld2k 83).2[6]? = some (11, 2147483648, 2147483688) ∧ (ev_hg h_ld2k 83).2[34]? = some (0, 0, 0) := by decide +kernel
theorem gq_d2k : lw_qR 1 h_wd2 ((11, 0, 4294967295), h_ld2k) := ⟨rfl, g2_d2k.1, g2_d2k.2.1, g2_d2k.2.2.1, g2_d2k.2.2.2.1, _, g2_d2k.2.2.2.2.1, Or.inr g2_d2k.2.2.2.2.2⟩
set_option maxRecDepth 1000000 in
theorem g2_d3 : e2_idh 4 8 h_ld3 = true ∧ e2_hle E_lb 8 h_wd3 h_ld3 = true ∧ ev_hg h_ld3 88 = (50, (List.replicate 2 (11, 2147483648, 2147483656)).set 1 (1, 1, 4294967296)) ∧ ev_hg h_ld3 97 = (50, lw_l97 1) ∧ ev_hg h_ld3 83 = (10, (ev_hg h_ld3 83).2) ∧ (ev_hg h_ld3 83).2[6]? = some (1, 2, 4294967296) ∧ (ev_hg h_ld3 83).2[34]? = some (1, 3, 4294967296) := by decide +kernel
theorem gq_d3 : lw_qR 1 h_wd3 ((11, 0, 4294967295), h_ld3) := ⟨rfl, g2_d3.1, g2_d3.2.1, g2_d3.2.2.1, g2_d3.2.2.2.1, _, g2_d3.2.2.2.2.1, Or.inl g2_d3.2.2.2.2.2⟩
set_option maxRecDepth 1000000 in
theorem g2_d3k : e2_idh 4 8 h_ld3k = true ∧ e2_hle E_lb 8 h_wd3 h_ld3k = true ∧ ev_hg h_ld3k 88 = (50, (List.replicate 2 (11, 2147483648, 2147483656)).set 1 (1, 1, 4294967296)) ∧ ev_hg h_ld3k 97 = (50, lw_l97 1) ∧ ev_hg h_ld3k 83 = (10, (ev_hg h_ld3k 83).2) ∧ (ev_hg h_ld3k 83).2[6]? = some (11, 2147483648, 2147483688) ∧ (ev_hg h_ld3k 83).2[34]? = some (0, 0, 0) := by decide +kernel
theorem gq_d3k : lw_qR 1 h_wd3 ((11, 0, 4294967295), h_ld3k) := ⟨rfl, g2_d3k.1, g2_d3k.2.1, g2_d3k.2.2.1, g2_d3k.2.2.2.1, _, g2_d3k.2.2.2.2.1, Or.inr g2_d3k.2.2.2.2.2⟩
