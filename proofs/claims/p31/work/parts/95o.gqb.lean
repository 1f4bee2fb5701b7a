/-! THE CALLS OF THE REFERENCE, as the law wants them -/
def lw_qR (b : Nat) (hW : ev_H) (q : ev_V × ev_H) : Prop := q.1 = (11, 0, 4294967295) ∧ e2_idh 4 8 q.2 = true ∧ e2_hle E_lb 8 hW q.2 = true ∧ ev_hg q.2 88 = (50, (List.replicate 2 (11, 2147483648, 2147483656)).set b (1, 1, 4294967296)) ∧ ev_hg q.2 97 = (50, lw_l97 b) ∧ lw_6 q.2
set_option maxRecDepth 1000000 in
theorem g2_b0 : e2_idh 4 8 h_lb0 = true ∧ e2_hle E_lb 8 h_wb0 h_lb0 = true ∧ ev_hg h_lb0 88 = (50, (List.replicate 2 (11, 2147483648, 2147483656)).set 0 (1, 1, 4294967296)) ∧ ev_hg h_lb0 97 = (50, lw_l97 0) ∧ ev_hg h_lb0 83 = (10, (ev_hg h_lb0 83).2) ∧ (ev_hg h_lb0 83).2[6]? = some (1, 2, 4294967296) ∧ (ev_hg h_lb0 83).2[34]? = some (1, 3, 4294967296) := by decide +kernel
theorem gq_b0 : lw_qR 0 h_wb0 ((11, 0, 4294967295), h_lb0) := ⟨rfl, g2_b0.1, g2_b0.2.1, g2_b0.2.2.1, g2_b0.2.2.2.1, _, g2_b0.2.2.2.2.1, Or.inl g2_b0.2.2.2.2.2⟩
set_option maxRecDepth 1000000 in
theorem g2_b0k : e2_idh 4 8 h_lb0k = true ∧ e2_hle E_lb 8 h_wb0 h_lb0k = true ∧ ev_hg h_lb0k 88 = (50, (List.replicate 2 (11, 2147483648, 2147483656)).set 0 (1, 1, 4294967296)) ∧ ev_hg h_lb0k 97 = (50, lw_l97 0) ∧ ev_hg h_lb0k 83 = (10, (ev_hg h_lb0k 83).2) ∧ (ev_hg h_lb0k 83).2[6]? = some (11, 2147483648, 2147483688) ∧ (ev_hg h_lb0k 83).2[34]? = some (0, 0, 0) := by decide +kernel
theorem gq_b0k : lw_qR 0 h_wb0 ((11, 0, 4294967295), h_lb0k) := ⟨rfl, g2_b0k.1, g2_b0k.2.1, g2_b0k.2.2.1, g2_b0k.2.2.2.1, _, g2_b0k.2.2.2.2.1, Or.inr g2_b0k.2.2.2.2.2⟩
set_option maxRecDepth 1000000 in
theorem g2_b1 : e2_idh 4 8 h_lb1 = true ∧ e2_hle E_lb 8 h_wb1 h_lb1 = true ∧ ev_hg h_lb1 88 = (50, (List.replicate 2 (11, 2147483648, 2147483656)).set 0 (1, 1, 4294967296)) ∧ ev_hg h_lb1 97 = (50, lw_l97 0) ∧ ev_hg h_lb1 83 = (10, (ev_hg h_lb1 83).2) ∧ (ev_hg h_lb1 83).2[6]? = some (1, 2, 4294967296) ∧ (ev_hg h_lb1 83).2[34]? = some (1, 3, 4294967296) := by decide +kernel
theorem gq_b1 : lw_qR 0 h_wb1 ((11, 0, 4294967295), h_lb1) := ⟨rfl, g2_b1.1, g2_b1.2.1, g2_b1.2.2.1, g2_b1.2.2.2.1, _, g2_b1.2.2.2.2.1, Or.inl g2_b1.2.2.2.2.2⟩
set_option maxRecDepth 1000000 in
theorem g2_b1k : e2_idh 4 8 h_lb1k = true ∧ e2_hle E_lb 8 h_wb1 h_lb1k = true ∧ ev_hg h_lb1k 88 = (50, (List.replicate 2 (11, 2147483648, 2147483656)).set 0 (1, 1, 4294967296)) ∧ ev_hg h_lb1k 97 = (50, lw_l97 0) ∧ ev_hg h_lb1k 83 = (10, (ev_hg h_lb1k 83).2) ∧ (ev_hg h_lb1k 83).2[6]? = some (11, 2147483648, 2147483688) ∧ (ev_hg h_lb1k 83).2[34]? = some (0, 0, 0) := by decide +kernel
theorem gq_b1k : lw_qR 0 h_wb1 ((11, 0, 4294967295), h_lb1k) := ⟨rfl, g2_b1k.1, g2_b1k.2.1, g2_b1k.2.2.1, g2_b1k.2.2.2.1, _, g2_b1k.2.2.2.2.1, Or.inr g2_b1k.2.2.2.2.2⟩
set_option maxRecDepth 1000000 in
theorem g2_b2 : e2_idh 4 8 h_lb2 = true ∧ e2_hle E_lb 8 h_wb2 h_lb2 = true ∧ ev_hg h_lb2 88 = (50, (List.replicate 2 (11, 2147483648, 2147483656)).set 0 (1, 1, 4294967296)) ∧ ev_hg h_lb2 97 = (50, lw_l97 0) ∧ ev_hg h_lb2 83 = (10, (ev_hg h_lb2 83).2) ∧ (ev_hg h_lb2 83).2[6]? = some (1, 2, 4294967296) ∧ (ev_hg h_lb2 83).2[34]? = some (1, 3, 4294967296) := by decide +kernel
theorem gq_b2 : lw_qR 0 h_wb2 ((11, 0, 4294967295), h_lb2) := ⟨rfl, g2_b2.1, g2_b2.2.1, g2_b2.2.2.1, g2_b2.2.2.2.1, _, g2_b2.2.2.2.2.1, Or.inl g2_b2.2.2.2.2.2⟩
set_option maxRecDepth 1000000 in
theorem g2_b2k : e2_idh 4 8 h_lb2k = true ∧ e2_hle E_lb 8 h_wb2 h_lb2k = true ∧ ev_hg h_lb2k 88 = (50, (List.replicate 2 (11, 2147483648, 2147483656)).set 0 (1, 1, 4294967296)) ∧ ev_hg h_lb2k 97 = (50, lw_l97 0) ∧ ev_hg h_lb2k 83 = (10, (ev_hg h_lb2k 83).2) ∧ (ev_hg h_lb2k 83).2[6]? = some (11, 2147483648, 2147483688) ∧ (ev_hg h_lb2k 83).2[34]? = some (0, 0, 0) := by decide +kernel
theorem gq_b2k : lw_qR 0 h_wb2 ((11, 0, 4294967295), h_lb2k) := ⟨rfl, g2_b2k.1, g2_b2k.2.1, g2_b2k.2.2.1, g2_b2k.2.2.2.1, _, g2_b2k.2.2.2.2.1, Or.inr g2_b2k.2.2.2.2.2⟩
set_option maxRecDepth 1000000 in
theorem g2_b3 : e2_idh 4 8 h_lb3 = true ∧ e2_hle E_lb 8 h_wb3 h_lb3 = true ∧ ev_hg h_lb3 88 = (50, (List.replicate 2 (11, 2147483648, 2147483656)).set 0 (1, 1, 4294967296)) ∧ ev_hg h_lb3 97 = (50, lw_l97 0) ∧ ev_hg h_lb3 83 = (10, (ev_hg h_lb3 83).2) ∧ (ev_hg h_lb3 83).2[6]? = some (1, 2, 4294967296) ∧ (ev_hg h_lb3 83).2[34]? = some (1, 3, 4294967296) := by decide +kernel
theorem gq_b3 : lw_qR 0 h_wb3 ((11, 0, 4294967295), h_lb3) := ⟨rfl, g2_b3.1, g2_b3.2.1, g2_b3.2.2.1, g2_b3.2.2.2.1, _, g2_b3.2.2.2.2.1, Or.inl g2_b3.2.2.2.2.2⟩
set_option maxRecDepth 1000000 in
theorem g2_b3k : e2_idh 4 8 h_lb3k = true ∧ e2_hle E_lb 8 h_wb3 h_lb3k = true ∧ ev_hg h_lb3k 88 = (50, (List.replicate 2 (11, 2147483648, 2147483656)).set 0 (1, 1, 4294967296)) ∧ ev_hg h_lb3k 97 = (50, lw_l97 0) ∧ ev_hg h_lb3k 83 = (10, (ev_hg h_lb3k 83).2) ∧ (ev_hg h_lb3k 83).2[6]? = some (11, 2147483648, 2147483688) ∧ (ev_hg h_lb3k 83).2[34]? = some (0, 0, 0) := by decide +kernel
theorem gq_b3k : lw_qR 0 h_wb3 ((11, 0, 4294967295), h_lb3k) := ⟨rfl, g2_b3k.1, g2_b3k.2.1, g2_b3k.2.2.1, g2_b3k.2.2.2.1, _, g2_b3k.2.2.2.2.1, Or.inr g2_b3k.2.2.2.2.2⟩
