/-! CLOSED FACTS OF THE PRINTED HEAPS: the reference -/
set_option maxRecDepth 1000000 in
theorem f2_B1 : ∀ q ∈ lw_bf, (ev_hg h_wb0 83).2[q.1]? = some (11, q.2.1, q.2.2) := by decide +kernel
set_option maxRecDepth 1000000 in
theorem f2_B2x : ∀ q ∈ lw_br, (53 ≤ (ev_hg h_wb0 q.1).1 ∧ (ev_hg h_wb0 q.1).2.getD 1 (9, 0, 0) = (11, q.2.1, q.2.2)) ∨ ((ev_hg h_wb0 q.1).1 < 53 ∧ ∀ j, j < (lw_tt.getD q.1 (0, 0)).2 → (ev_hg h_wb0 q.1).2.getD j (9, 0, 0) = (11, q.2.1, q.2.2)) := by decide +kernel
theorem f2_B2 : ∀ q ∈ lw_br, ∀ j, j < (lw_tt.getD q.1 (0, 0)).2 → lw_el (ev_hg h_wb0 q.1) j = (11, q.2.1, q.2.2) := fun q hq j hj => by
  rcases f2_B2x q hq with ⟨h1, h2⟩ | ⟨h1, h2⟩
  · unfold lw_el
    rw [if_neg (by omega)]
    exact h2
  · unfold lw_el
    rw [if_pos h1]
    exact h2 j hj
set_option maxRecDepth 1000000 in
theorem f2_B3 : ∀ j, j < 26 → lw_el (ev_hg h_wb0 112) j = (11, if j = 25 then (2147483648, 2147484647) else (0, 4294967295)) := by decide +kernel
set_option maxRecDepth 1000000 in
theorem f2_B4 : (ev_hg h_wb0 83).2[22]? = some (1, 0, 4294967296) := by decide +kernel
set_option maxRecDepth 1000000 in
theorem f2_B5 : ∀ q ∈ lw_br, (84 ≤ q.1 ∧ q.1 ≠ 86) ∧ q.1 < 133 ∧ q.1 ≠ 104 ∧ q.1 ≠ 107 ∧ q.1 ≠ 101 ∧ q.1 ≠ 102 ∧ (lw_tt.getD q.1 (0, 0)).1 ≠ 53 ∧ (ev_hg h_wb0 q.1).1 < 60 := by decide +kernel
theorem f2_BB : lw_BB h_wb0 := ⟨f2_B1, f2_B2, f2_B3, f2_B4, f2_B5⟩
