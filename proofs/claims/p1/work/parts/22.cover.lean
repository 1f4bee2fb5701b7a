/-! THE REGIONS cover all arguments -/
theorem ev_rel.iv (ads : List Nat) {x : Int32} {lo hi : Nat} (h1 : lo ≤ ev_key x) (h2 : ev_key x ≤ hi) : ev_rel ads (1, lo, hi) (.int x) := Or.inr (Or.inl ⟨rfl, x, rfl, h1, h2⟩)
theorem ev_rel.key (ads : List Nat) {x : Int32} {u : Nat} (h : ev_key x = (u + 2147483648) % 4294967296) : ev_rel ads (0, u, 0) (.int x) := Or.inl ⟨rfl, congrArg Value.int (ev_key_eqI.mpr (by rw [ev_key_of]; exact h))⟩
theorem ev_ret0 {ads : List Nat} {r : ev_V} {v : Option Value} (h : ev_ret ads r v) (h0 : r.1 = 0) : v = some (.int (ev_i r.2.1)) := by
  rcases h with ⟨z, -⟩ | ⟨-, w, rfl, hw⟩
  · omega
  · obtain ⟨x, rfl, hx, -⟩ := ev_rel.int (t := r.1) (a := r.2.1) (b := r.2.2) hw (by omega)
    rw [hx h0]
theorem rs_feed (ads : List Nat) (x1 x2 x3 x4 x5 : Int32) : ∃ as, ev_relS ads as [.int x1, .int x2, .int x3, .int x4, .int x5] ∧ ev_two 65 184 as = true := by
  have k1 := ev_key_lt x1
  have k2 := ev_key_lt x2
  have k3 := ev_key_lt x3
  have k4 := ev_key_lt x4
  have k5 := ev_key_lt x5
  exact ⟨[(1, 0, 4294967295), (1, 0, 4294967295), (1, 0, 4294967295), (1, 0, 4294967295), (1, 0, 4294967295)], ⟨(ev_rel.iv ads (Nat.zero_le _) (ev_key_lt x1)), (ev_rel.iv ads (Nat.zero_le _) (ev_key_lt x2)), (ev_rel.iv ads (Nat.zero_le _) (ev_key_lt x3)), (ev_rel.iv ads (Nat.zero_le _) (ev_key_lt x4)), (ev_rel.iv ads (Nat.zero_le _) (ev_key_lt x5)), trivial⟩, rg_feed_0⟩
theorem rs_end (ads : List Nat) (x1 : Int32) : ∃ as, ev_relS ads as [.int x1] ∧ ev_two 66 185 as = true := by
  have k1 := ev_key_lt x1
  by_cases h0_0 : 0 ≤ ev_key x1 ∧ ev_key x1 ≤ 2147483647
  · exact ⟨[(1, 0, 2147483647)], ⟨(ev_rel.iv ads (by omega) (by omega)), trivial⟩, rg_end_0⟩
  by_cases h0_1 : ev_key x1 = 2147483648
  · exact ⟨[(0, 0, 0)], ⟨(ev_rel.key ads (by omega)), trivial⟩, rg_end_1⟩
  exact ⟨[(1, 2147483649, 4294967295)], ⟨(ev_rel.iv ads (by omega) (by omega)), trivial⟩, rg_end_2⟩
theorem rs_meadow (ads : List Nat) : ∃ as, ev_relS ads as [] ∧ ev_two 67 116 as = true := by
  exact ⟨[], trivial, rg_meadow_0⟩
theorem rs_fault (ads : List Nat) (x1 : Int32) : ∃ as, ev_relS ads as [.int x1] ∧ ev_two 68 117 as = true := by
  have k1 := ev_key_lt x1
  by_cases h0_0 : 0 ≤ ev_key x1 ∧ ev_key x1 ≤ 2147483647
  · exact ⟨[(1, 0, 2147483647)], ⟨(ev_rel.iv ads (by omega) (by omega)), trivial⟩, rg_fault_0⟩
  by_cases h0_1 : ev_key x1 = 2147483648
  · exact ⟨[(0, 0, 0)], ⟨(ev_rel.key ads (by omega)), trivial⟩, rg_fault_1⟩
  by_cases h0_2 : ev_key x1 = 2147483649
  · exact ⟨[(0, 1, 0)], ⟨(ev_rel.key ads (by omega)), trivial⟩, rg_fault_2⟩
  exact ⟨[(1, 2147483650, 4294967295)], ⟨(ev_rel.iv ads (by omega) (by omega)), trivial⟩, rg_fault_3⟩
theorem rs_thing (ads : List Nat) (x1 : Int32) : ∃ as, ev_relS ads as [.int x1] ∧ ev_two 69 139 as = true := by
  have k1 := ev_key_lt x1
  by_cases h0_0 : 0 ≤ ev_key x1 ∧ ev_key x1 ≤ 2147483647
  · exact ⟨[(1, 0, 2147483647)], ⟨(ev_rel.iv ads (by omega) (by omega)), trivial⟩, rg_thing_0⟩
  exact ⟨[(1, 2147483648, 4294967295)], ⟨(ev_rel.iv ads (by omega) (by omega)), trivial⟩, rg_thing_1⟩
theorem rs_glyph (ads : List Nat) (x1 x2 : Int32) : ∃ as, ev_relS ads as [.int x1, .int x2] ∧ ev_two 70 140 as = true := by
  have k1 := ev_key_lt x1
  have k2 := ev_key_lt x2
  by_cases h0_0 : 0 ≤ ev_key x1 ∧ ev_key x1 ≤ 2147483647
  · exact ⟨[(1, 0, 2147483647), (1, 0, 4294967295)], ⟨(ev_rel.iv ads (by omega) (by omega)), (ev_rel.iv ads (Nat.zero_le _) (ev_key_lt x2)), trivial⟩, rg_glyph_0⟩
  exact ⟨[(1, 2147483648, 4294967295), (1, 0, 4294967295)], ⟨(ev_rel.iv ads (by omega) (by omega)), (ev_rel.iv ads (Nat.zero_le _) (ev_key_lt x2)), trivial⟩, rg_glyph_1⟩
theorem rs_plot (ads : List Nat) (x1 x2 : Int32) : ∃ as, ev_relS ads as [.int x1, .int x2] ∧ ev_two 71 142 as = true := by
  have k1 := ev_key_lt x1
  have k2 := ev_key_lt x2
  by_cases h0_0 : 0 ≤ ev_key x1 ∧ ev_key x1 ≤ 2147483647
  · exact ⟨[(1, 0, 2147483647), (1, 0, 4294967295)], ⟨(ev_rel.iv ads (by omega) (by omega)), (ev_rel.iv ads (Nat.zero_le _) (ev_key_lt x2)), trivial⟩, rg_plot_0⟩
  by_cases h0_1 : 2147483660 ≤ ev_key x1 ∧ ev_key x1 ≤ 4294967295
  · exact ⟨[(1, 2147483660, 4294967295), (1, 0, 4294967295)], ⟨(ev_rel.iv ads (by omega) (by omega)), (ev_rel.iv ads (Nat.zero_le _) (ev_key_lt x2)), trivial⟩, rg_plot_1⟩
  by_cases h0_2 : ev_key x1 = 2147483648
  · by_cases h1_0 : 0 ≤ ev_key x2 ∧ ev_key x2 ≤ 2147483647
    · exact ⟨[(0, 0, 0), (1, 0, 2147483647)], ⟨(ev_rel.key ads (by omega)), (ev_rel.iv ads (by omega) (by omega)), trivial⟩, rg_plot_2⟩
    by_cases h1_1 : ev_key x2 = 2147483648
    · exact ⟨[(0, 0, 0), (0, 0, 0)], ⟨(ev_rel.key ads (by omega)), (ev_rel.key ads (by omega)), trivial⟩, rg_plot_3⟩
    by_cases h1_2 : ev_key x2 = 2147483649
    · exact ⟨[(0, 0, 0), (0, 1, 0)], ⟨(ev_rel.key ads (by omega)), (ev_rel.key ads (by omega)), trivial⟩, rg_plot_4⟩
    by_cases h1_3 : ev_key x2 = 2147483650
    · exact ⟨[(0, 0, 0), (0, 2, 0)], ⟨(ev_rel.key ads (by omega)), (ev_rel.key ads (by omega)), trivial⟩, rg_plot_5⟩
    by_cases h1_4 : ev_key x2 = 2147483651
    · exact ⟨[(0, 0, 0), (0, 3, 0)], ⟨(ev_rel.key ads (by omega)), (ev_rel.key ads (by omega)), trivial⟩, rg_plot_6⟩
    exact ⟨[(0, 0, 0), (1, 2147483652, 4294967295)], ⟨(ev_rel.key ads (by omega)), (ev_rel.iv ads (by omega) (by omega)), trivial⟩, rg_plot_7⟩
  by_cases h0_3 : ev_key x1 = 2147483649
  · by_cases h1_0 : 0 ≤ ev_key x2 ∧ ev_key x2 ≤ 2147483647
    · exact ⟨[(0, 1, 0), (1, 0, 2147483647)], ⟨(ev_rel.key ads (by omega)), (ev_rel.iv ads (by omega) (by omega)), trivial⟩, rg_plot_8⟩
    by_cases h1_1 : ev_key x2 = 2147483648
    · exact ⟨[(0, 1, 0), (0, 0, 0)], ⟨(ev_rel.key ads (by omega)), (ev_rel.key ads (by omega)), trivial⟩, rg_plot_9⟩
    by_cases h1_2 : ev_key x2 = 2147483649
    · exact ⟨[(0, 1, 0), (0, 1, 0)], ⟨(ev_rel.key ads (by omega)), (ev_rel.key ads (by omega)), trivial⟩, rg_plot_10⟩
    by_cases h1_3 : ev_key x2 = 2147483650
    · exact ⟨[(0, 1, 0), (0, 2, 0)], ⟨(ev_rel.key ads (by omega)), (ev_rel.key ads (by omega)), trivial⟩, rg_plot_11⟩
    by_cases h1_4 : ev_key x2 = 2147483651
    · exact ⟨[(0, 1, 0), (0, 3, 0)], ⟨(ev_rel.key ads (by omega)), (ev_rel.key ads (by omega)), trivial⟩, rg_plot_12⟩
    exact ⟨[(0, 1, 0), (1, 2147483652, 4294967295)], ⟨(ev_rel.key ads (by omega)), (ev_rel.iv ads (by omega) (by omega)), trivial⟩, rg_plot_13⟩
  by_cases h0_4 : ev_key x1 = 2147483650
  · by_cases h1_0 : 0 ≤ ev_key x2 ∧ ev_key x2 ≤ 2147483647
    · exact ⟨[(0, 2, 0), (1, 0, 2147483647)], ⟨(ev_rel.key ads (by omega)), (ev_rel.iv ads (by omega) (by omega)), trivial⟩, rg_plot_14⟩
    by_cases h1_1 : ev_key x2 = 2147483648
    · exact ⟨[(0, 2, 0), (0, 0, 0)], ⟨(ev_rel.key ads (by omega)), (ev_rel.key ads (by omega)), trivial⟩, rg_plot_15⟩
    by_cases h1_2 : ev_key x2 = 2147483649
    · exact ⟨[(0, 2, 0), (0, 1, 0)], ⟨(ev_rel.key ads (by omega)), (ev_rel.key ads (by omega)), trivial⟩, rg_plot_16⟩
    by_cases h1_3 : ev_key x2 = 2147483650
    · exact ⟨[(0, 2, 0), (0, 2, 0)], ⟨(ev_rel.key ads (by omega)), (ev_rel.key ads (by omega)), trivial⟩, rg_plot_17⟩
    by_cases h1_4 : ev_key x2 = 2147483651
    · exact ⟨[(0, 2, 0), (0, 3, 0)], ⟨(ev_rel.key ads (by omega)), (ev_rel.key ads (by omega)), trivial⟩, rg_plot_18⟩
    exact ⟨[(0, 2, 0), (1, 2147483652, 4294967295)], ⟨(ev_rel.key ads (by omega)), (ev_rel.iv ads (by omega) (by omega)), trivial⟩, rg_plot_19⟩
  by_cases h0_5 : ev_key x1 = 2147483651
  · by_cases h1_0 : 0 ≤ ev_key x2 ∧ ev_key x2 ≤ 2147483647
    · exact ⟨[(0, 3, 0), (1, 0, 2147483647)], ⟨(ev_rel.key ads (by omega)), (ev_rel.iv ads (by omega) (by omega)), trivial⟩, rg_plot_20⟩
    by_cases h1_1 : ev_key x2 = 2147483648
    · exact ⟨[(0, 3, 0), (0, 0, 0)], ⟨(ev_rel.key ads (by omega)), (ev_rel.key ads (by omega)), trivial⟩, rg_plot_21⟩
    by_cases h1_2 : ev_key x2 = 2147483649
    · exact ⟨[(0, 3, 0), (0, 1, 0)], ⟨(ev_rel.key ads (by omega)), (ev_rel.key ads (by omega)), trivial⟩, rg_plot_22⟩
    by_cases h1_3 : ev_key x2 = 2147483650
    · exact ⟨[(0, 3, 0), (0, 2, 0)], ⟨(ev_rel.key ads (by omega)), (ev_rel.key ads (by omega)), trivial⟩, rg_plot_23⟩
    by_cases h1_4 : ev_key x2 = 2147483651
    · exact ⟨[(0, 3, 0), (0, 3, 0)], ⟨(ev_rel.key ads (by omega)), (ev_rel.key ads (by omega)), trivial⟩, rg_plot_24⟩
    exact ⟨[(0, 3, 0), (1, 2147483652, 4294967295)], ⟨(ev_rel.key ads (by omega)), (ev_rel.iv ads (by omega) (by omega)), trivial⟩, rg_plot_25⟩
  by_cases h0_6 : ev_key x1 = 2147483652
  · by_cases h1_0 : 0 ≤ ev_key x2 ∧ ev_key x2 ≤ 2147483647
    · exact ⟨[(0, 4, 0), (1, 0, 2147483647)], ⟨(ev_rel.key ads (by omega)), (ev_rel.iv ads (by omega) (by omega)), trivial⟩, rg_plot_26⟩
    by_cases h1_1 : ev_key x2 = 2147483648
    · exact ⟨[(0, 4, 0), (0, 0, 0)], ⟨(ev_rel.key ads (by omega)), (ev_rel.key ads (by omega)), trivial⟩, rg_plot_27⟩
    by_cases h1_2 : ev_key x2 = 2147483649
    · exact ⟨[(0, 4, 0), (0, 1, 0)], ⟨(ev_rel.key ads (by omega)), (ev_rel.key ads (by omega)), trivial⟩, rg_plot_28⟩
    by_cases h1_3 : ev_key x2 = 2147483650
    · exact ⟨[(0, 4, 0), (0, 2, 0)], ⟨(ev_rel.key ads (by omega)), (ev_rel.key ads (by omega)), trivial⟩, rg_plot_29⟩
    by_cases h1_4 : ev_key x2 = 2147483651
    · exact ⟨[(0, 4, 0), (0, 3, 0)], ⟨(ev_rel.key ads (by omega)), (ev_rel.key ads (by omega)), trivial⟩, rg_plot_30⟩
    exact ⟨[(0, 4, 0), (1, 2147483652, 4294967295)], ⟨(ev_rel.key ads (by omega)), (ev_rel.iv ads (by omega) (by omega)), trivial⟩, rg_plot_31⟩
  by_cases h0_7 : ev_key x1 = 2147483653
  · by_cases h1_0 : 0 ≤ ev_key x2 ∧ ev_key x2 ≤ 2147483647
    · exact ⟨[(0, 5, 0), (1, 0, 2147483647)], ⟨(ev_rel.key ads (by omega)), (ev_rel.iv ads (by omega) (by omega)), trivial⟩, rg_plot_32⟩
    by_cases h1_1 : ev_key x2 = 2147483648
    · exact ⟨[(0, 5, 0), (0, 0, 0)], ⟨(ev_rel.key ads (by omega)), (ev_rel.key ads (by omega)), trivial⟩, rg_plot_33⟩
    by_cases h1_2 : ev_key x2 = 2147483649
    · exact ⟨[(0, 5, 0), (0, 1, 0)], ⟨(ev_rel.key ads (by omega)), (ev_rel.key ads (by omega)), trivial⟩, rg_plot_34⟩
    by_cases h1_3 : ev_key x2 = 2147483650
    · exact ⟨[(0, 5, 0), (0, 2, 0)], ⟨(ev_rel.key ads (by omega)), (ev_rel.key ads (by omega)), trivial⟩, rg_plot_35⟩
    by_cases h1_4 : ev_key x2 = 2147483651
    · exact ⟨[(0, 5, 0), (0, 3, 0)], ⟨(ev_rel.key ads (by omega)), (ev_rel.key ads (by omega)), trivial⟩, rg_plot_36⟩
    exact ⟨[(0, 5, 0), (1, 2147483652, 4294967295)], ⟨(ev_rel.key ads (by omega)), (ev_rel.iv ads (by omega) (by omega)), trivial⟩, rg_plot_37⟩
  by_cases h0_8 : ev_key x1 = 2147483654
  · by_cases h1_0 : 0 ≤ ev_key x2 ∧ ev_key x2 ≤ 2147483647
    · exact ⟨[(0, 6, 0), (1, 0, 2147483647)], ⟨(ev_rel.key ads (by omega)), (ev_rel.iv ads (by omega) (by omega)), trivial⟩, rg_plot_38⟩
    by_cases h1_1 : ev_key x2 = 2147483648
    · exact ⟨[(0, 6, 0), (0, 0, 0)], ⟨(ev_rel.key ads (by omega)), (ev_rel.key ads (by omega)), trivial⟩, rg_plot_39⟩
    by_cases h1_2 : ev_key x2 = 2147483649
    · exact ⟨[(0, 6, 0), (0, 1, 0)], ⟨(ev_rel.key ads (by omega)), (ev_rel.key ads (by omega)), trivial⟩, rg_plot_40⟩
    by_cases h1_3 : ev_key x2 = 2147483650
    · exact ⟨[(0, 6, 0), (0, 2, 0)], ⟨(ev_rel.key ads (by omega)), (ev_rel.key ads (by omega)), trivial⟩, rg_plot_41⟩
    by_cases h1_4 : ev_key x2 = 2147483651
    · exact ⟨[(0, 6, 0), (0, 3, 0)], ⟨(ev_rel.key ads (by omega)), (ev_rel.key ads (by omega)), trivial⟩, rg_plot_42⟩
    exact ⟨[(0, 6, 0), (1, 2147483652, 4294967295)], ⟨(ev_rel.key ads (by omega)), (ev_rel.iv ads (by omega) (by omega)), trivial⟩, rg_plot_43⟩
  by_cases h0_9 : ev_key x1 = 2147483655
  · by_cases h1_0 : 0 ≤ ev_key x2 ∧ ev_key x2 ≤ 2147483647
    · exact ⟨[(0, 7, 0), (1, 0, 2147483647)], ⟨(ev_rel.key ads (by omega)), (ev_rel.iv ads (by omega) (by omega)), trivial⟩, rg_plot_44⟩
    by_cases h1_1 : ev_key x2 = 2147483648
    · exact ⟨[(0, 7, 0), (0, 0, 0)], ⟨(ev_rel.key ads (by omega)), (ev_rel.key ads (by omega)), trivial⟩, rg_plot_45⟩
    by_cases h1_2 : ev_key x2 = 2147483649
    · exact ⟨[(0, 7, 0), (0, 1, 0)], ⟨(ev_rel.key ads (by omega)), (ev_rel.key ads (by omega)), trivial⟩, rg_plot_46⟩
    by_cases h1_3 : ev_key x2 = 2147483650
    · exact ⟨[(0, 7, 0), (0, 2, 0)], ⟨(ev_rel.key ads (by omega)), (ev_rel.key ads (by omega)), trivial⟩, rg_plot_47⟩
    by_cases h1_4 : ev_key x2 = 2147483651
    · exact ⟨[(0, 7, 0), (0, 3, 0)], ⟨(ev_rel.key ads (by omega)), (ev_rel.key ads (by omega)), trivial⟩, rg_plot_48⟩
    exact ⟨[(0, 7, 0), (1, 2147483652, 4294967295)], ⟨(ev_rel.key ads (by omega)), (ev_rel.iv ads (by omega) (by omega)), trivial⟩, rg_plot_49⟩
  by_cases h0_10 : ev_key x1 = 2147483656
  · by_cases h1_0 : 0 ≤ ev_key x2 ∧ ev_key x2 ≤ 2147483647
    · exact ⟨[(0, 8, 0), (1, 0, 2147483647)], ⟨(ev_rel.key ads (by omega)), (ev_rel.iv ads (by omega) (by omega)), trivial⟩, rg_plot_50⟩
    by_cases h1_1 : ev_key x2 = 2147483648
    · exact ⟨[(0, 8, 0), (0, 0, 0)], ⟨(ev_rel.key ads (by omega)), (ev_rel.key ads (by omega)), trivial⟩, rg_plot_51⟩
    by_cases h1_2 : ev_key x2 = 2147483649
    · exact ⟨[(0, 8, 0), (0, 1, 0)], ⟨(ev_rel.key ads (by omega)), (ev_rel.key ads (by omega)), trivial⟩, rg_plot_52⟩
    by_cases h1_3 : ev_key x2 = 2147483650
    · exact ⟨[(0, 8, 0), (0, 2, 0)], ⟨(ev_rel.key ads (by omega)), (ev_rel.key ads (by omega)), trivial⟩, rg_plot_53⟩
    by_cases h1_4 : ev_key x2 = 2147483651
    · exact ⟨[(0, 8, 0), (0, 3, 0)], ⟨(ev_rel.key ads (by omega)), (ev_rel.key ads (by omega)), trivial⟩, rg_plot_54⟩
    exact ⟨[(0, 8, 0), (1, 2147483652, 4294967295)], ⟨(ev_rel.key ads (by omega)), (ev_rel.iv ads (by omega) (by omega)), trivial⟩, rg_plot_55⟩
  by_cases h0_11 : ev_key x1 = 2147483657
  · by_cases h1_0 : 0 ≤ ev_key x2 ∧ ev_key x2 ≤ 2147483647
    · exact ⟨[(0, 9, 0), (1, 0, 2147483647)], ⟨(ev_rel.key ads (by omega)), (ev_rel.iv ads (by omega) (by omega)), trivial⟩, rg_plot_56⟩
    by_cases h1_1 : ev_key x2 = 2147483648
    · exact ⟨[(0, 9, 0), (0, 0, 0)], ⟨(ev_rel.key ads (by omega)), (ev_rel.key ads (by omega)), trivial⟩, rg_plot_57⟩
    by_cases h1_2 : ev_key x2 = 2147483649
    · exact ⟨[(0, 9, 0), (0, 1, 0)], ⟨(ev_rel.key ads (by omega)), (ev_rel.key ads (by omega)), trivial⟩, rg_plot_58⟩
    by_cases h1_3 : ev_key x2 = 2147483650
    · exact ⟨[(0, 9, 0), (0, 2, 0)], ⟨(ev_rel.key ads (by omega)), (ev_rel.key ads (by omega)), trivial⟩, rg_plot_59⟩
    by_cases h1_4 : ev_key x2 = 2147483651
    · exact ⟨[(0, 9, 0), (0, 3, 0)], ⟨(ev_rel.key ads (by omega)), (ev_rel.key ads (by omega)), trivial⟩, rg_plot_60⟩
    exact ⟨[(0, 9, 0), (1, 2147483652, 4294967295)], ⟨(ev_rel.key ads (by omega)), (ev_rel.iv ads (by omega) (by omega)), trivial⟩, rg_plot_61⟩
  by_cases h0_12 : ev_key x1 = 2147483658
  · by_cases h1_0 : 0 ≤ ev_key x2 ∧ ev_key x2 ≤ 2147483647
    · exact ⟨[(0, 10, 0), (1, 0, 2147483647)], ⟨(ev_rel.key ads (by omega)), (ev_rel.iv ads (by omega) (by omega)), trivial⟩, rg_plot_62⟩
    by_cases h1_1 : ev_key x2 = 2147483648
    · exact ⟨[(0, 10, 0), (0, 0, 0)], ⟨(ev_rel.key ads (by omega)), (ev_rel.key ads (by omega)), trivial⟩, rg_plot_63⟩
    by_cases h1_2 : ev_key x2 = 2147483649
    · exact ⟨[(0, 10, 0), (0, 1, 0)], ⟨(ev_rel.key ads (by omega)), (ev_rel.key ads (by omega)), trivial⟩, rg_plot_64⟩
    by_cases h1_3 : ev_key x2 = 2147483650
    · exact ⟨[(0, 10, 0), (0, 2, 0)], ⟨(ev_rel.key ads (by omega)), (ev_rel.key ads (by omega)), trivial⟩, rg_plot_65⟩
    by_cases h1_4 : ev_key x2 = 2147483651
    · exact ⟨[(0, 10, 0), (0, 3, 0)], ⟨(ev_rel.key ads (by omega)), (ev_rel.key ads (by omega)), trivial⟩, rg_plot_66⟩
    exact ⟨[(0, 10, 0), (1, 2147483652, 4294967295)], ⟨(ev_rel.key ads (by omega)), (ev_rel.iv ads (by omega) (by omega)), trivial⟩, rg_plot_67⟩
  by_cases h1_0 : 0 ≤ ev_key x2 ∧ ev_key x2 ≤ 2147483647
  · exact ⟨[(0, 11, 0), (1, 0, 2147483647)], ⟨(ev_rel.key ads (by omega)), (ev_rel.iv ads (by omega) (by omega)), trivial⟩, rg_plot_68⟩
  by_cases h1_1 : ev_key x2 = 2147483648
  · exact ⟨[(0, 11, 0), (0, 0, 0)], ⟨(ev_rel.key ads (by omega)), (ev_rel.key ads (by omega)), trivial⟩, rg_plot_69⟩
  by_cases h1_2 : ev_key x2 = 2147483649
  · exact ⟨[(0, 11, 0), (0, 1, 0)], ⟨(ev_rel.key ads (by omega)), (ev_rel.key ads (by omega)), trivial⟩, rg_plot_70⟩
  by_cases h1_3 : ev_key x2 = 2147483650
  · exact ⟨[(0, 11, 0), (0, 2, 0)], ⟨(ev_rel.key ads (by omega)), (ev_rel.key ads (by omega)), trivial⟩, rg_plot_71⟩
  by_cases h1_4 : ev_key x2 = 2147483651
  · exact ⟨[(0, 11, 0), (0, 3, 0)], ⟨(ev_rel.key ads (by omega)), (ev_rel.key ads (by omega)), trivial⟩, rg_plot_72⟩
  exact ⟨[(0, 11, 0), (1, 2147483652, 4294967295)], ⟨(ev_rel.key ads (by omega)), (ev_rel.iv ads (by omega) (by omega)), trivial⟩, rg_plot_73⟩
theorem rs_mow (ads : List Nat) (x1 : Int32) : ∃ as, ev_relS ads as [.int x1] ∧ ev_two 72 144 as = true := by
  have k1 := ev_key_lt x1
  by_cases h0_0 : 0 ≤ ev_key x1 ∧ ev_key x1 ≤ 2147483647
  · exact ⟨[(1, 0, 2147483647)], ⟨(ev_rel.iv ads (by omega) (by omega)), trivial⟩, rg_mow_0⟩
  by_cases h0_1 : 2147483660 ≤ ev_key x1 ∧ ev_key x1 ≤ 4294967295
  · exact ⟨[(1, 2147483660, 4294967295)], ⟨(ev_rel.iv ads (by omega) (by omega)), trivial⟩, rg_mow_1⟩
  by_cases h0_2 : ev_key x1 = 2147483648
  · exact ⟨[(0, 0, 0)], ⟨(ev_rel.key ads (by omega)), trivial⟩, rg_mow_2⟩
  by_cases h0_3 : ev_key x1 = 2147483649
  · exact ⟨[(0, 1, 0)], ⟨(ev_rel.key ads (by omega)), trivial⟩, rg_mow_3⟩
  by_cases h0_4 : ev_key x1 = 2147483650
  · exact ⟨[(0, 2, 0)], ⟨(ev_rel.key ads (by omega)), trivial⟩, rg_mow_4⟩
  by_cases h0_5 : ev_key x1 = 2147483651
  · exact ⟨[(0, 3, 0)], ⟨(ev_rel.key ads (by omega)), trivial⟩, rg_mow_5⟩
  by_cases h0_6 : ev_key x1 = 2147483652
  · exact ⟨[(0, 4, 0)], ⟨(ev_rel.key ads (by omega)), trivial⟩, rg_mow_6⟩
  by_cases h0_7 : ev_key x1 = 2147483653
  · exact ⟨[(0, 5, 0)], ⟨(ev_rel.key ads (by omega)), trivial⟩, rg_mow_7⟩
  by_cases h0_8 : ev_key x1 = 2147483654
  · exact ⟨[(0, 6, 0)], ⟨(ev_rel.key ads (by omega)), trivial⟩, rg_mow_8⟩
  by_cases h0_9 : ev_key x1 = 2147483655
  · exact ⟨[(0, 7, 0)], ⟨(ev_rel.key ads (by omega)), trivial⟩, rg_mow_9⟩
  by_cases h0_10 : ev_key x1 = 2147483656
  · exact ⟨[(0, 8, 0)], ⟨(ev_rel.key ads (by omega)), trivial⟩, rg_mow_10⟩
  by_cases h0_11 : ev_key x1 = 2147483657
  · exact ⟨[(0, 9, 0)], ⟨(ev_rel.key ads (by omega)), trivial⟩, rg_mow_11⟩
  by_cases h0_12 : ev_key x1 = 2147483658
  · exact ⟨[(0, 10, 0)], ⟨(ev_rel.key ads (by omega)), trivial⟩, rg_mow_12⟩
  exact ⟨[(0, 11, 0)], ⟨(ev_rel.key ads (by omega)), trivial⟩, rg_mow_13⟩
theorem rs_sow (ads : List Nat) (x1 : Int32) : ∃ as, ev_relS ads as [.int x1] ∧ ev_two 73 145 as = true := by
  have k1 := ev_key_lt x1
  by_cases h0_0 : 0 ≤ ev_key x1 ∧ ev_key x1 ≤ 2147483647
  · exact ⟨[(1, 0, 2147483647)], ⟨(ev_rel.iv ads (by omega) (by omega)), trivial⟩, rg_sow_0⟩
  by_cases h0_1 : 2147483660 ≤ ev_key x1 ∧ ev_key x1 ≤ 4294967295
  · exact ⟨[(1, 2147483660, 4294967295)], ⟨(ev_rel.iv ads (by omega) (by omega)), trivial⟩, rg_sow_1⟩
  by_cases h0_2 : ev_key x1 = 2147483648
  · exact ⟨[(0, 0, 0)], ⟨(ev_rel.key ads (by omega)), trivial⟩, rg_sow_2⟩
  by_cases h0_3 : ev_key x1 = 2147483649
  · exact ⟨[(0, 1, 0)], ⟨(ev_rel.key ads (by omega)), trivial⟩, rg_sow_3⟩
  by_cases h0_4 : ev_key x1 = 2147483650
  · exact ⟨[(0, 2, 0)], ⟨(ev_rel.key ads (by omega)), trivial⟩, rg_sow_4⟩
  by_cases h0_5 : ev_key x1 = 2147483651
  · exact ⟨[(0, 3, 0)], ⟨(ev_rel.key ads (by omega)), trivial⟩, rg_sow_5⟩
  by_cases h0_6 : ev_key x1 = 2147483652
  · exact ⟨[(0, 4, 0)], ⟨(ev_rel.key ads (by omega)), trivial⟩, rg_sow_6⟩
  by_cases h0_7 : ev_key x1 = 2147483653
  · exact ⟨[(0, 5, 0)], ⟨(ev_rel.key ads (by omega)), trivial⟩, rg_sow_7⟩
  by_cases h0_8 : ev_key x1 = 2147483654
  · exact ⟨[(0, 6, 0)], ⟨(ev_rel.key ads (by omega)), trivial⟩, rg_sow_8⟩
  by_cases h0_9 : ev_key x1 = 2147483655
  · exact ⟨[(0, 7, 0)], ⟨(ev_rel.key ads (by omega)), trivial⟩, rg_sow_9⟩
  by_cases h0_10 : ev_key x1 = 2147483656
  · exact ⟨[(0, 8, 0)], ⟨(ev_rel.key ads (by omega)), trivial⟩, rg_sow_10⟩
  by_cases h0_11 : ev_key x1 = 2147483657
  · exact ⟨[(0, 9, 0)], ⟨(ev_rel.key ads (by omega)), trivial⟩, rg_sow_11⟩
  by_cases h0_12 : ev_key x1 = 2147483658
  · exact ⟨[(0, 10, 0)], ⟨(ev_rel.key ads (by omega)), trivial⟩, rg_sow_12⟩
  exact ⟨[(0, 11, 0)], ⟨(ev_rel.key ads (by omega)), trivial⟩, rg_sow_13⟩
theorem rs_year (ads : List Nat) : ∃ as, ev_relS ads as [] ∧ ev_two 74 147 as = true := by
  exact ⟨[], trivial, rg_year_0⟩
theorem rs_undo (ads : List Nat) : ∃ as, ev_relS ads as [] ∧ ev_two 75 148 as = true := by
  exact ⟨[], trivial, rg_undo_0⟩
theorem rs_redo (ads : List Nat) : ∃ as, ev_relS ads as [] ∧ ev_two 76 149 as = true := by
  exact ⟨[], trivial, rg_redo_0⟩
theorem rs_readings (ads : List Nat) : ∃ as, ev_relS ads as [] ∧ ev_two 77 150 as = true := by
  exact ⟨[], trivial, rg_readings_0⟩
theorem rs_taken (ads : List Nat) : ∃ as, ev_relS ads as [] ∧ ev_two 78 152 as = true := by
  exact ⟨[], trivial, rg_taken_0⟩
theorem rs_weight (ads : List Nat) : ∃ as, ev_relS ads as [] ∧ ev_two 79 153 as = true := by
  exact ⟨[], trivial, rg_weight_0⟩
theorem rs_does (ads : List Nat) (x1 : Int32) : ∃ as, ev_relS ads as [.int x1] ∧ ev_two 80 154 as = true := by
  have k1 := ev_key_lt x1
  by_cases h0_0 : 0 ≤ ev_key x1 ∧ ev_key x1 ≤ 2147483647
  · exact ⟨[(1, 0, 2147483647)], ⟨(ev_rel.iv ads (by omega) (by omega)), trivial⟩, rg_does_0⟩
  exact ⟨[(1, 2147483648, 4294967295)], ⟨(ev_rel.iv ads (by omega) (by omega)), trivial⟩, rg_does_1⟩
theorem rs_will (ads : List Nat) (x1 x2 : Int32) : ∃ as, ev_relS ads as [.int x1, .int x2] ∧ ev_two 81 157 as = true := by
  have k1 := ev_key_lt x1
  have k2 := ev_key_lt x2
  by_cases h0_0 : 0 ≤ ev_key x1 ∧ ev_key x1 ≤ 2147483647
  · exact ⟨[(1, 0, 2147483647), (1, 0, 4294967295)], ⟨(ev_rel.iv ads (by omega) (by omega)), (ev_rel.iv ads (Nat.zero_le _) (ev_key_lt x2)), trivial⟩, rg_will_0⟩
  exact ⟨[(1, 2147483648, 4294967295), (1, 0, 4294967295)], ⟨(ev_rel.iv ads (by omega) (by omega)), (ev_rel.iv ads (Nat.zero_le _) (ev_key_lt x2)), trivial⟩, rg_will_1⟩
theorem rs_field (ads : List Nat) (x1 : Int32) (hne : ¬ (2147483648 ≤ ev_key x1 ∧ ev_key x1 ≤ 2147483708)) : ∃ as, ev_relS ads as [.int x1] ∧ ev_two 82 158 as = true := by
  have k1 := ev_key_lt x1
  by_cases h0_0 : 0 ≤ ev_key x1 ∧ ev_key x1 ≤ 2147483647
  · exact ⟨[(1, 0, 2147483647)], ⟨(ev_rel.iv ads (by omega) (by omega)), trivial⟩, rg_field_0⟩
  by_cases h0_1 : 2147483709 ≤ ev_key x1
  · exact ⟨[(1, 2147483709, 4294967295)], ⟨(ev_rel.iv ads (by omega) (by omega)), trivial⟩, rg_field_1⟩
  omega
theorem rs_harm (ads : List Nat) : ∃ as, ev_relS ads as [] ∧ ev_two 83 159 as = true := by
  exact ⟨[], trivial, rg_harm_0⟩
theorem rs_turn (ads : List Nat) (x1 x2 : Int32) : ∃ as, ev_relS ads as [.int x1, .int x2] ∧ ev_two 84 162 as = true := by
  have k1 := ev_key_lt x1
  have k2 := ev_key_lt x2
  by_cases h0_0 : 0 ≤ ev_key x1 ∧ ev_key x1 ≤ 2147483647
  · exact ⟨[(1, 0, 2147483647), (1, 0, 4294967295)], ⟨(ev_rel.iv ads (by omega) (by omega)), (ev_rel.iv ads (Nat.zero_le _) (ev_key_lt x2)), trivial⟩, rg_turn_0⟩
  exact ⟨[(1, 2147483648, 4294967295), (1, 0, 4294967295)], ⟨(ev_rel.iv ads (by omega) (by omega)), (ev_rel.iv ads (Nat.zero_le _) (ev_key_lt x2)), trivial⟩, rg_turn_1⟩
theorem rs_plain (ads : List Nat) : ∃ as, ev_relS ads as [] ∧ ev_two 85 163 as = true := by
  exact ⟨[], trivial, rg_plain_0⟩
theorem rs_write (ads : List Nat) (x1 x2 x3 : Int32) : ∃ as, ev_relS ads as [.int x1, .int x2, .int x3] ∧ ev_two 87 167 as = true := by
  have k1 := ev_key_lt x1
  have k2 := ev_key_lt x2
  have k3 := ev_key_lt x3
  by_cases h0_0 : 0 ≤ ev_key x1 ∧ ev_key x1 ≤ 2147483647
  · by_cases h1_0 : 0 ≤ ev_key x2 ∧ ev_key x2 ≤ 2147483646
    · by_cases h2_0 : 0 ≤ ev_key x3 ∧ ev_key x3 ≤ 2147483646
      · exact ⟨[(1, 0, 2147483647), (1, 0, 2147483646), (1, 0, 2147483646)], ⟨(ev_rel.iv ads (by omega) (by omega)), (ev_rel.iv ads (by omega) (by omega)), (ev_rel.iv ads (by omega) (by omega)), trivial⟩, rg_write_0⟩
      by_cases h2_1 : ev_key x3 = 2147483647
      · exact ⟨[(1, 0, 2147483647), (1, 0, 2147483646), (0, 4294967295, 0)], ⟨(ev_rel.iv ads (by omega) (by omega)), (ev_rel.iv ads (by omega) (by omega)), (ev_rel.key ads (by omega)), trivial⟩, rg_write_1⟩
      exact ⟨[(1, 0, 2147483647), (1, 0, 2147483646), (1, 2147483648, 4294967295)], ⟨(ev_rel.iv ads (by omega) (by omega)), (ev_rel.iv ads (by omega) (by omega)), (ev_rel.iv ads (by omega) (by omega)), trivial⟩, rg_write_2⟩
    by_cases h1_1 : ev_key x2 = 2147483647
    · by_cases h2_0 : 0 ≤ ev_key x3 ∧ ev_key x3 ≤ 2147483646
      · exact ⟨[(1, 0, 2147483647), (0, 4294967295, 0), (1, 0, 2147483646)], ⟨(ev_rel.iv ads (by omega) (by omega)), (ev_rel.key ads (by omega)), (ev_rel.iv ads (by omega) (by omega)), trivial⟩, rg_write_3⟩
      by_cases h2_1 : ev_key x3 = 2147483647
      · exact ⟨[(1, 0, 2147483647), (0, 4294967295, 0), (0, 4294967295, 0)], ⟨(ev_rel.iv ads (by omega) (by omega)), (ev_rel.key ads (by omega)), (ev_rel.key ads (by omega)), trivial⟩, rg_write_4⟩
      exact ⟨[(1, 0, 2147483647), (0, 4294967295, 0), (1, 2147483648, 4294967295)], ⟨(ev_rel.iv ads (by omega) (by omega)), (ev_rel.key ads (by omega)), (ev_rel.iv ads (by omega) (by omega)), trivial⟩, rg_write_5⟩
    by_cases h2_0 : 0 ≤ ev_key x3 ∧ ev_key x3 ≤ 2147483646
    · exact ⟨[(1, 0, 2147483647), (1, 2147483648, 4294967295), (1, 0, 2147483646)], ⟨(ev_rel.iv ads (by omega) (by omega)), (ev_rel.iv ads (by omega) (by omega)), (ev_rel.iv ads (by omega) (by omega)), trivial⟩, rg_write_6⟩
    by_cases h2_1 : ev_key x3 = 2147483647
    · exact ⟨[(1, 0, 2147483647), (1, 2147483648, 4294967295), (0, 4294967295, 0)], ⟨(ev_rel.iv ads (by omega) (by omega)), (ev_rel.iv ads (by omega) (by omega)), (ev_rel.key ads (by omega)), trivial⟩, rg_write_7⟩
    exact ⟨[(1, 0, 2147483647), (1, 2147483648, 4294967295), (1, 2147483648, 4294967295)], ⟨(ev_rel.iv ads (by omega) (by omega)), (ev_rel.iv ads (by omega) (by omega)), (ev_rel.iv ads (by omega) (by omega)), trivial⟩, rg_write_8⟩
  by_cases h1_0 : 0 ≤ ev_key x2 ∧ ev_key x2 ≤ 2147483646
  · by_cases h2_0 : 0 ≤ ev_key x3 ∧ ev_key x3 ≤ 2147483646
    · exact ⟨[(1, 2147483648, 4294967295), (1, 0, 2147483646), (1, 0, 2147483646)], ⟨(ev_rel.iv ads (by omega) (by omega)), (ev_rel.iv ads (by omega) (by omega)), (ev_rel.iv ads (by omega) (by omega)), trivial⟩, rg_write_9⟩
    by_cases h2_1 : ev_key x3 = 2147483647
    · exact ⟨[(1, 2147483648, 4294967295), (1, 0, 2147483646), (0, 4294967295, 0)], ⟨(ev_rel.iv ads (by omega) (by omega)), (ev_rel.iv ads (by omega) (by omega)), (ev_rel.key ads (by omega)), trivial⟩, rg_write_10⟩
    exact ⟨[(1, 2147483648, 4294967295), (1, 0, 2147483646), (1, 2147483648, 4294967295)], ⟨(ev_rel.iv ads (by omega) (by omega)), (ev_rel.iv ads (by omega) (by omega)), (ev_rel.iv ads (by omega) (by omega)), trivial⟩, rg_write_11⟩
  by_cases h1_1 : ev_key x2 = 2147483647
  · by_cases h2_0 : 0 ≤ ev_key x3 ∧ ev_key x3 ≤ 2147483646
    · exact ⟨[(1, 2147483648, 4294967295), (0, 4294967295, 0), (1, 0, 2147483646)], ⟨(ev_rel.iv ads (by omega) (by omega)), (ev_rel.key ads (by omega)), (ev_rel.iv ads (by omega) (by omega)), trivial⟩, rg_write_12⟩
    by_cases h2_1 : ev_key x3 = 2147483647
    · exact ⟨[(1, 2147483648, 4294967295), (0, 4294967295, 0), (0, 4294967295, 0)], ⟨(ev_rel.iv ads (by omega) (by omega)), (ev_rel.key ads (by omega)), (ev_rel.key ads (by omega)), trivial⟩, rg_write_13⟩
    exact ⟨[(1, 2147483648, 4294967295), (0, 4294967295, 0), (1, 2147483648, 4294967295)], ⟨(ev_rel.iv ads (by omega) (by omega)), (ev_rel.key ads (by omega)), (ev_rel.iv ads (by omega) (by omega)), trivial⟩, rg_write_14⟩
  by_cases h2_0 : 0 ≤ ev_key x3 ∧ ev_key x3 ≤ 2147483646
  · exact ⟨[(1, 2147483648, 4294967295), (1, 2147483648, 4294967295), (1, 0, 2147483646)], ⟨(ev_rel.iv ads (by omega) (by omega)), (ev_rel.iv ads (by omega) (by omega)), (ev_rel.iv ads (by omega) (by omega)), trivial⟩, rg_write_15⟩
  by_cases h2_1 : ev_key x3 = 2147483647
  · exact ⟨[(1, 2147483648, 4294967295), (1, 2147483648, 4294967295), (0, 4294967295, 0)], ⟨(ev_rel.iv ads (by omega) (by omega)), (ev_rel.iv ads (by omega) (by omega)), (ev_rel.key ads (by omega)), trivial⟩, rg_write_16⟩
  exact ⟨[(1, 2147483648, 4294967295), (1, 2147483648, 4294967295), (1, 2147483648, 4294967295)], ⟨(ev_rel.iv ads (by omega) (by omega)), (ev_rel.iv ads (by omega) (by omega)), (ev_rel.iv ads (by omega) (by omega)), trivial⟩, rg_write_17⟩
theorem rs_watch (ads : List Nat) : ∃ as, ev_relS ads as [] ∧ ev_two 88 168 as = true := by
  exact ⟨[], trivial, rg_watch_0⟩
theorem rs_cows (ads : List Nat) (x1 x2 : Int32) : ∃ as, ev_relS ads as [.int x1, .int x2] ∧ ev_two 89 169 as = true := by
  have k1 := ev_key_lt x1
  have k2 := ev_key_lt x2
  by_cases h0_0 : 0 ≤ ev_key x1 ∧ ev_key x1 ≤ 2147483647
  · exact ⟨[(1, 0, 2147483647), (1, 0, 4294967295)], ⟨(ev_rel.iv ads (by omega) (by omega)), (ev_rel.iv ads (Nat.zero_le _) (ev_key_lt x2)), trivial⟩, rg_cows_0⟩
  exact ⟨[(1, 2147483648, 4294967295), (1, 0, 4294967295)], ⟨(ev_rel.iv ads (by omega) (by omega)), (ev_rel.iv ads (Nat.zero_le _) (ev_key_lt x2)), trivial⟩, rg_cows_1⟩
theorem rs_lies (ads : List Nat) (x1 : Int32) : ∃ as, ev_relS ads as [.int x1] ∧ ev_two 91 151 as = true := by
  have k1 := ev_key_lt x1
  by_cases h0_0 : 0 ≤ ev_key x1 ∧ ev_key x1 ≤ 2147483647
  · exact ⟨[(1, 0, 2147483647)], ⟨(ev_rel.iv ads (by omega) (by omega)), trivial⟩, rg_lies_0⟩
  exact ⟨[(1, 2147483648, 4294967295)], ⟨(ev_rel.iv ads (by omega) (by omega)), trivial⟩, rg_lies_1⟩
theorem rs_heard (ads : List Nat) (x1 x2 x3 x4 : Int32) (hz : x4 = 0 ∨ x4 = 1) : ∃ as, ev_relS ads as [.int x1, .int x2, .int x3, .int x4] ∧ ev_two 92 173 as = true := by
  have k1 := ev_key_lt x1
  have k2 := ev_key_lt x2
  have k3 := ev_key_lt x3
  have k4 := ev_key_lt x4
  have hz1 : 2147483648 ≤ ev_key x4 ∧ ev_key x4 ≤ 2147483649 := by rcases hz with rfl | rfl <;> decide +kernel
  by_cases h0_0 : 0 ≤ ev_key x1 ∧ ev_key x1 ≤ 2147483647
  · exact ⟨[(1, 0, 2147483647), (1, 0, 4294967295), (1, 0, 4294967295), (1, 2147483648, 2147483649)], ⟨(ev_rel.iv ads (by omega) (by omega)), (ev_rel.iv ads (Nat.zero_le _) (ev_key_lt x2)), (ev_rel.iv ads (Nat.zero_le _) (ev_key_lt x3)), (ev_rel.iv ads (by omega) (by omega)), trivial⟩, rg_heard_0⟩
  exact ⟨[(1, 2147483648, 4294967295), (1, 0, 4294967295), (1, 0, 4294967295), (1, 2147483648, 2147483649)], ⟨(ev_rel.iv ads (by omega) (by omega)), (ev_rel.iv ads (Nat.zero_le _) (ev_key_lt x2)), (ev_rel.iv ads (Nat.zero_le _) (ev_key_lt x3)), (ev_rel.iv ads (by omega) (by omega)), trivial⟩, rg_heard_1⟩
theorem rs_untell (ads : List Nat) (x1 : Int32) : ∃ as, ev_relS ads as [.int x1] ∧ ev_two 93 174 as = true := by
  have k1 := ev_key_lt x1
  by_cases h0_0 : 0 ≤ ev_key x1 ∧ ev_key x1 ≤ 2147483647
  · exact ⟨[(1, 0, 2147483647)], ⟨(ev_rel.iv ads (by omega) (by omega)), trivial⟩, rg_untell_0⟩
  exact ⟨[(1, 2147483648, 4294967295)], ⟨(ev_rel.iv ads (by omega) (by omega)), trivial⟩, rg_untell_1⟩
theorem rs_later (ads : List Nat) (x1 : Int32) : ∃ as, ev_relS ads as [.int x1] ∧ ev_two 94 175 as = true := by
  have k1 := ev_key_lt x1
  by_cases h0_0 : 0 ≤ ev_key x1 ∧ ev_key x1 ≤ 2147483647
  · exact ⟨[(1, 0, 2147483647)], ⟨(ev_rel.iv ads (by omega) (by omega)), trivial⟩, rg_later_0⟩
  by_cases h0_1 : 2147484649 ≤ ev_key x1
  · exact ⟨[(1, 2147484649, 4294967295)], ⟨(ev_rel.iv ads (by omega) (by omega)), trivial⟩, rg_later_1⟩
  exact ⟨[(0, ev_key x1 - 2147483648, 0)], ⟨ev_rel.key ads (by omega), trivial⟩, List.all_eq_true.mp rg_later_x (ev_key x1 - 2147483648) (List.mem_range.mpr (by omega))⟩
theorem rs_fit (ads : List Nat) (x1 : Int32) : ∃ as, ev_relS ads as [.int x1] ∧ ev_two 95 178 as = true := by
  have k1 := ev_key_lt x1
  exact ⟨[(1, 0, 4294967295)], ⟨(ev_rel.iv ads (Nat.zero_le _) (ev_key_lt x1)), trivial⟩, rg_fit_0⟩
theorem rs_sure (ads : List Nat) (x1 x2 x3 : Int32) : ∃ as, ev_relS ads as [.int x1, .int x2, .int x3] ∧ ev_two 96 179 as = true := by
  have k1 := ev_key_lt x1
  have k2 := ev_key_lt x2
  have k3 := ev_key_lt x3
  by_cases h0_0 : 0 ≤ ev_key x1 ∧ ev_key x1 ≤ 2147483647
  · exact ⟨[(1, 0, 2147483647), (1, 0, 4294967295), (1, 0, 4294967295)], ⟨(ev_rel.iv ads (by omega) (by omega)), (ev_rel.iv ads (Nat.zero_le _) (ev_key_lt x2)), (ev_rel.iv ads (Nat.zero_le _) (ev_key_lt x3)), trivial⟩, rg_sure_0⟩
  exact ⟨[(1, 2147483648, 4294967295), (1, 0, 4294967295), (1, 0, 4294967295)], ⟨(ev_rel.iv ads (by omega) (by omega)), (ev_rel.iv ads (Nat.zero_le _) (ev_key_lt x2)), (ev_rel.iv ads (Nat.zero_le _) (ev_key_lt x3)), trivial⟩, rg_sure_1⟩
theorem rs_ask (ads : List Nat) (x1 x2 : Int32) : ∃ as, ev_relS ads as [.int x1, .int x2] ∧ ev_two 97 180 as = true := by
  have k1 := ev_key_lt x1
  have k2 := ev_key_lt x2
  by_cases h0_0 : 0 ≤ ev_key x1 ∧ ev_key x1 ≤ 2147483647
  · exact ⟨[(1, 0, 2147483647), (1, 0, 4294967295)], ⟨(ev_rel.iv ads (by omega) (by omega)), (ev_rel.iv ads (Nat.zero_le _) (ev_key_lt x2)), trivial⟩, rg_ask_0⟩
  by_cases h0_1 : 2147483648 ≤ ev_key x1 ∧ ev_key x1 ≤ 2147483649
  · exact ⟨[(1, 2147483648, 2147483649), (1, 0, 4294967295)], ⟨(ev_rel.iv ads (by omega) (by omega)), (ev_rel.iv ads (Nat.zero_le _) (ev_key_lt x2)), trivial⟩, rg_ask_1⟩
  exact ⟨[(1, 2147483650, 4294967295), (1, 0, 4294967295)], ⟨(ev_rel.iv ads (by omega) (by omega)), (ev_rel.iv ads (Nat.zero_le _) (ev_key_lt x2)), trivial⟩, rg_ask_2⟩
theorem rs_image (ads : List Nat) (x1 : Int32) : ∃ as, ev_relS ads as [.int x1] ∧ ev_two 98 181 as = true := by
  have k1 := ev_key_lt x1
  by_cases h0_0 : 0 ≤ ev_key x1 ∧ ev_key x1 ≤ 2147483647
  · exact ⟨[(1, 0, 2147483647)], ⟨(ev_rel.iv ads (by omega) (by omega)), trivial⟩, rg_image_0⟩
  by_cases h0_1 : 2147483651 ≤ ev_key x1 ∧ ev_key x1 ≤ 4294967295
  · exact ⟨[(1, 2147483651, 4294967295)], ⟨(ev_rel.iv ads (by omega) (by omega)), trivial⟩, rg_image_1⟩
  by_cases h0_2 : ev_key x1 = 2147483648
  · exact ⟨[(0, 0, 0)], ⟨(ev_rel.key ads (by omega)), trivial⟩, rg_image_2⟩
  by_cases h0_3 : ev_key x1 = 2147483649
  · exact ⟨[(0, 1, 0)], ⟨(ev_rel.key ads (by omega)), trivial⟩, rg_image_3⟩
  exact ⟨[(0, 2, 0)], ⟨(ev_rel.key ads (by omega)), trivial⟩, rg_image_4⟩
theorem rs_back (ads : List Nat) (x1 : Int32) : ∃ as, ev_relS ads as [.int x1] ∧ ev_two 99 182 as = true := by
  have k1 := ev_key_lt x1
  by_cases h0_0 : 0 ≤ ev_key x1 ∧ ev_key x1 ≤ 2147483647
  · exact ⟨[(1, 0, 2147483647)], ⟨(ev_rel.iv ads (by omega) (by omega)), trivial⟩, rg_back_0⟩
  by_cases h0_1 : 2147483651 ≤ ev_key x1 ∧ ev_key x1 ≤ 4294967295
  · exact ⟨[(1, 2147483651, 4294967295)], ⟨(ev_rel.iv ads (by omega) (by omega)), trivial⟩, rg_back_1⟩
  by_cases h0_2 : ev_key x1 = 2147483648
  · exact ⟨[(0, 0, 0)], ⟨(ev_rel.key ads (by omega)), trivial⟩, rg_back_2⟩
  by_cases h0_3 : ev_key x1 = 2147483649
  · exact ⟨[(0, 1, 0)], ⟨(ev_rel.key ads (by omega)), trivial⟩, rg_back_3⟩
  exact ⟨[(0, 2, 0)], ⟨(ev_rel.key ads (by omega)), trivial⟩, rg_back_4⟩
theorem rs_about (ads : List Nat) (x1 : Int32) : ∃ as, ev_relS ads as [.int x1] ∧ ev_two 100 183 as = true := by
  have k1 := ev_key_lt x1
  by_cases h0_0 : 0 ≤ ev_key x1 ∧ ev_key x1 ≤ 2147483647
  · exact ⟨[(1, 0, 2147483647)], ⟨(ev_rel.iv ads (by omega) (by omega)), trivial⟩, rg_about_0⟩
  by_cases h0_1 : ev_key x1 = 2147483648
  · exact ⟨[(0, 0, 0)], ⟨(ev_rel.key ads (by omega)), trivial⟩, rg_about_1⟩
  by_cases h0_2 : ev_key x1 = 2147483649
  · exact ⟨[(0, 1, 0)], ⟨(ev_rel.key ads (by omega)), trivial⟩, rg_about_2⟩
  by_cases h0_3 : ev_key x1 = 2147483650
  · exact ⟨[(0, 2, 0)], ⟨(ev_rel.key ads (by omega)), trivial⟩, rg_about_3⟩
  by_cases h0_4 : ev_key x1 = 2147483651
  · exact ⟨[(0, 3, 0)], ⟨(ev_rel.key ads (by omega)), trivial⟩, rg_about_4⟩
  by_cases h0_5 : ev_key x1 = 2147483652
  · exact ⟨[(0, 4, 0)], ⟨(ev_rel.key ads (by omega)), trivial⟩, rg_about_5⟩
  by_cases h0_6 : ev_key x1 = 2147483653
  · exact ⟨[(0, 5, 0)], ⟨(ev_rel.key ads (by omega)), trivial⟩, rg_about_6⟩
  by_cases h0_7 : ev_key x1 = 2147483654
  · exact ⟨[(0, 6, 0)], ⟨(ev_rel.key ads (by omega)), trivial⟩, rg_about_7⟩
  by_cases h0_8 : ev_key x1 = 2147483655
  · exact ⟨[(0, 7, 0)], ⟨(ev_rel.key ads (by omega)), trivial⟩, rg_about_8⟩
  by_cases h0_9 : ev_key x1 = 2147483656
  · exact ⟨[(0, 8, 0)], ⟨(ev_rel.key ads (by omega)), trivial⟩, rg_about_9⟩
  by_cases h0_10 : ev_key x1 = 2147483657
  · exact ⟨[(0, 9, 0)], ⟨(ev_rel.key ads (by omega)), trivial⟩, rg_about_10⟩
  by_cases h0_11 : ev_key x1 = 2147483658
  · exact ⟨[(0, 10, 0)], ⟨(ev_rel.key ads (by omega)), trivial⟩, rg_about_11⟩
  by_cases h0_12 : ev_key x1 = 2147483659
  · exact ⟨[(0, 11, 0)], ⟨(ev_rel.key ads (by omega)), trivial⟩, rg_about_12⟩
  by_cases h0_13 : ev_key x1 = 2147483660
  · exact ⟨[(0, 12, 0)], ⟨(ev_rel.key ads (by omega)), trivial⟩, rg_about_13⟩
  by_cases h0_14 : ev_key x1 = 2147483661
  · exact ⟨[(0, 13, 0)], ⟨(ev_rel.key ads (by omega)), trivial⟩, rg_about_14⟩
  by_cases h0_15 : ev_key x1 = 2147483662
  · exact ⟨[(0, 14, 0)], ⟨(ev_rel.key ads (by omega)), trivial⟩, rg_about_15⟩
  exact ⟨[(1, 2147483663, 4294967295)], ⟨(ev_rel.iv ads (by omega) (by omega)), trivial⟩, rg_about_16⟩
