/-! TWO HEAPS ALIKE but for some cells -/
theorem hd_same {q f : ev_H} (L : List Nat) (h : ((List.range 133).all fun k => L.contains k || decide (ev_hg q k = ev_hg f k)) = true) {k : Nat} (hk : k < 133) (hn : L.contains k = false) : ev_hg q k = ev_hg f k := by
  have := List.all_eq_true.mp h k (List.mem_range.mpr hk)
  rw [hn, Bool.false_or] at this
  exact of_decide_eq_true this
theorem hd_same1 {q f : ev_H} (a : Nat) (h : ((List.range 133).all fun k => [a].contains k || decide (ev_hg q k = ev_hg f k)) = true) : ∀ k, k < 133 → k ≠ a → ev_hg q k = ev_hg f k := fun k hk h1 => hd_same [a] h hk (by simp [h1])
theorem hd_same3 {q f : ev_H} (a b c : Nat) (h : ((List.range 133).all fun k => [a, b, c].contains k || decide (ev_hg q k = ev_hg f k)) = true) : ∀ k, k < 133 → k ≠ a → k ≠ b → k ≠ c → ev_hg q k = ev_hg f k := fun k hk h1 h2 h3 => hd_same [a, b, c] h hk (by simp [h1, h2, h3])
