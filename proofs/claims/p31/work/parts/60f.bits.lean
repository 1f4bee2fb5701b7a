/-! bitsOf as a summary -/
theorem bj_lt {x : Int32} (h : ¬ x = 0) : ev_u (eb_and x (eb_sub x 1)) < ev_u x := by
  have h0 : x.toUInt32.toNat ≠ 0 := fun z => h (by
    have : x = ev_i (ev_u x) := (ev_iu x).symm
    rw [this, show ev_u x = 0 from z]
    rfl)
  show (x &&& (x - 1)).toUInt32.toNat < x.toUInt32.toNat
  have e1 : (x &&& (x - 1)).toUInt32 = x.toUInt32 &&& (x.toUInt32 - 1) := rfl
  rw [e1, UInt32.toNat_and]
  have e2 : (x.toUInt32 - 1).toNat = x.toUInt32.toNat - 1 := by
    rw [UInt32.toNat_sub_of_le]
    · rfl
    · rw [UInt32.le_iff_toNat_le]
      show 1 ≤ x.toUInt32.toNat
      omega
  rw [e2]
  have := Nat.and_le_right (n := x.toUInt32.toNat) (m := x.toUInt32.toNat - 1)
  omega
theorem hd_bits (hen : en_ok) {l : Launch} {E : e2_E} {f : ev_H} (hok : e2_okSB E.length [(11, 0, 4294967295)] f [((11, 0, 4294967295), f)] = true) (hres : e2_allR [((11, 0, 4294967295), f)] (fun x => e2_fin [((11, 0, 4294967295), f)] x.1 E x.2) = true) : e2_smOk l 1 (214, [(11, 0, 4294967295)], E, f, [((11, 0, 4294967295), f)]) := by
  refine sy_smOk (nL := 3) (D := 0) (C := evd_214) (X := e2x_214) [] hen ei_214 ex2_214 (Nat.le_of_ble_eq_true rfl) hok hres fun d hd Dg cA A ads r ws H ls hsat hwo hfr => ?_
  obtain ⟨x, -, hfr'⟩ := ex_fr (i := 0) hfr rfl (Or.inr (Or.inr (Or.inl rfl)))
  refine ⟨_, f, fun v E' h' => sy_K ((∃ y, v = sy_I y) ∧ h' = f), hfr', hwo, fun G hG => ?_, fun v E' h' r' ws' H' hF' hp hw' => ?_⟩
  · have loop : ∀ (N : Nat) (y n : Int32), ev_u y ≤ N → G 4 [sy_I x, sy_I n, sy_I y] [] E f := by
      intro N
      induction N with
      | zero =>
        intro y n hy
        have hy0 : y = 0 := by rw [← ev_iu y, show ev_u y = 0 by omega]; rfl
        exact sy_iload hG a214_4 rfl (sy_ifc hG a214_5 (fun _ => sy_iload (x := n) hG a214_20 rfl (sy_iret hG a214_21 (Or.inl rfl) (sy_K_i ⟨⟨_, rfl⟩, rfl⟩))) (fun z => absurd hy0 z))
      | succ N ih =>
        intro y n hy
        refine sy_iload hG a214_4 rfl (sy_ifc hG a214_5 (fun _ => sy_iload (x := n) hG a214_20 rfl (sy_iret hG a214_21 (Or.inl rfl) (sy_K_i ⟨⟨_, rfl⟩, rfl⟩))) (fun z => ?_))
        have hz : ¬ y = 0 := z
        refine sy_iinc (y := 1) hG a214_8 rfl (x := n) rfl rfl rfl (sy_iload (x := y) hG a214_11 rfl (sy_iload (x := y) hG a214_12 rfl (sy_push (y := 1) hG a214_13 rfl (sy_bin2 hG a214_14 (sy_bin2 hG a214_15 (sy_istore hG a214_16 rfl (Nat.le_of_ble_eq_true rfl) rfl (sy_goto hG a214_17 (ih _ _ ?_))))))))
        have := bj_lt hz
        omega
    show G 0 [sy_I x, (9, 0, 0), (9, 0, 0)] [] E f
    exact sy_push (y := 0) hG a214_0 rfl (sy_istore hG a214_1 rfl (Nat.le_of_ble_eq_true rfl) rfl (sy_iload (x := x) hG a214_2 rfl (sy_istore hG a214_3 rfl (Nat.le_of_ble_eq_true rfl) rfl (loop _ x 0 (Nat.le_refl _)))))
  · obtain ⟨⟨y, rfl⟩, rfl⟩ := sy_K_e hF'
    exact ⟨_, List.mem_cons_self, hw', fun z => (by cases z), fun _ => ⟨by show (11 : Nat) ≠ 9; decide, by show (11 : Nat) ≠ 7; decide⟩, ob_11 (hd_top y)⟩
