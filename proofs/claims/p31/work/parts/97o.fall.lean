/-! CLOSED FACTS OF THE PRINTED HEAPS: the reference, all banks -/
noncomputable def lw_hR (b m : Nat) : ev_H := match b, m with
  | 0, 0 => h_wb0
  | 0, 1 => h_wb1
  | 0, 2 => h_wb2
  | 0, _ => h_wb3
  | _, 0 => h_wd0
  | _, 1 => h_wd1
  | _, 2 => h_wd2
  | _, _ => h_wd3
noncomputable def lw_hM (b m : Nat) : ev_H := match b, m with
  | 0, 0 => h_lb0
  | 0, 1 => h_lb1
  | 0, 2 => h_lb2
  | 0, _ => h_lb3
  | _, 0 => h_ld0
  | _, 1 => h_ld1
  | _, 2 => h_ld2
  | _, _ => h_ld3
theorem lw_8 {P : Nat → Nat → Prop} (h00 : P 0 0) (h01 : P 0 1) (h02 : P 0 2) (h03 : P 0 3) (h10 : P 1 0) (h11 : P 1 1) (h12 : P 1 2) (h13 : P 1 3) : ∀ b m, b < 2 → m < 4 → P b m := by
  intro b m hb hm
  rcases (show b = 0 ∨ b = 1 by omega) with rfl | rfl
  · rcases (show m = 0 ∨ m = 1 ∨ m = 2 ∨ m = 3 by omega) with rfl | rfl | rfl | rfl
    · exact h00
    · exact h01
    · exact h02
    · exact h03
  · rcases (show m = 0 ∨ m = 1 ∨ m = 2 ∨ m = 3 by omega) with rfl | rfl | rfl | rfl
    · exact h10
    · exact h11
    · exact h12
    · exact h13
theorem lw_F2_ok : lw_F2 h_wb0 lw_hR lw_hM E_lb := by
  refine ⟨fun T sg ac un h1 h2 h3 h4 h5 h6 h7 => ⟨rfl, fun i b hb => ?_⟩, f2_BB, ?_⟩
  · match i, hb with
    | 0, hb =>
      cases hb
      exact ⟨lw_T T, lw_T T, rfl, by show 2147483648 ≤ 2147483648 + T; omega, by show 2147483648 + T ≤ 2147583648; omega, rfl, Nat.le_of_eq (Nat.add_zero _)⟩
    | 1, hb =>
      cases hb
      exact ⟨sg, sg, rfl, h2, h3, rfl, Nat.le_of_eq (Nat.add_zero _)⟩
    | 2, hb =>
      cases hb
      exact ⟨ac, ac, rfl, h4, h5, rfl, Nat.le_of_eq (Nat.add_zero _)⟩
    | 3, hb =>
      cases hb
      exact ⟨un, un, rfl, h6, h7, rfl, Nat.le_of_eq (Nat.add_zero _)⟩
    | i + 4, hb => simp [E_lb] at hb
  · exact lw_8 (P := fun b m => lw_W h_wb0 (lw_hR b m) b m ∧ lw_okT (lw_hR b m) ∧ lw_okN (lw_hM b m) (lw_hR b m) b ∧ e2_idh 1 8 (lw_hR b m) = true) ⟨f2_b0W, f2_b09.1, f2_b0N, f2_b09.2⟩ ⟨f2_b1W, f2_b19.1, f2_b1N, f2_b19.2⟩ ⟨f2_b2W, f2_b29.1, f2_b2N, f2_b29.2⟩ ⟨f2_b3W, f2_b39.1, f2_b3N, f2_b39.2⟩ ⟨f2_d0W, f2_d09.1, f2_d0N, f2_d09.2⟩ ⟨f2_d1W, f2_d19.1, f2_d1N, f2_d19.2⟩ ⟨f2_d2W, f2_d29.1, f2_d2N, f2_d29.2⟩ ⟨f2_d3W, f2_d39.1, f2_d3N, f2_d39.2⟩
