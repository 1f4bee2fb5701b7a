/-! THE READER BY HAND: choose, settle -/
def rd_q8 (q : Int32) : Prop := q = -1 ∨ ∃ g, g < 8 ∧ q = ev_i g
def rd_P (p : Nat → Int32) : Prop := ∀ j, j < 189 → rd_q8 (p j)
theorem rd_P.up {p : Nat → Int32} (h : rd_P p) {i : Nat} {q : Int32} (hq : rd_q8 q) : rd_P (sy_up p i q) := fun j hj => by
  unfold sy_up
  split
  · exact hq
  · exact h j hj
theorem sy_m1 : (4294967295 : Nat) = ev_u (-1) := by decide +kernel
theorem sy_mio : (1000000 : Nat) = ev_u 1000000 := by decide +kernel
theorem rd_choose (hen : en_ok) {l : Launch} {b t c a : Nat} {h0 h : ev_H} {lk fr tk able : Int32} {m o p : Nat → Int32} {E : e2_E} (hS : rd_S b t h0 h lk fr tk m o p) (hb : b < 121) (hc : c < 21) (ha : a ≤ 8) :
    sy_C l 2 93 [(2, b, 0), sy_I (ev_i c), sy_I (ev_i a), sy_I able] E h (fun v E' h' => v = (9, 0, 0) ∧ E' = E ∧ ∃ q, rd_S b t h0 h' lk fr tk m o (sy_up p (9 * c + a) q) ∧ (q = -1 ∨ ∃ g, g < 8 ∧ q = ev_i g ∧ sy_bt able g = true)) := by
  have hS' := hS
  obtain ⟨g0, g1, g2, g3, g4, ⟨f5, g5⟩, ⟨f6, g6⟩, ⟨f7, g7⟩, ⟨f8, g8⟩, -⟩ := hS'
  refine sy_con (D := 1) (C := evd_93) (X := e2x_93) [] hen ei_93 ex2_93 (Nat.le_of_ble_eq_true rfl) fun d' F G hd' hF hG => ?_
  have tail : ∀ (tot ch sg : Int32), (ch = -1 ∨ ∃ g, g < 8 ∧ ch = ev_i g ∧ sy_bt able g = true) → G 82 [(2, b, 0), sy_I (ev_i c), sy_I (ev_i a), sy_I able, sy_I tot, sy_I ch, sy_I sg] [] E h := by
    intro tot ch sg hch
    have e9 : eb_add (eb_mul (ev_i c) 9) (ev_i a) = ev_i (9 * c + a) := by show ev_i c * ev_i 9 + ev_i a = _; rw [sy_mul, sy_add, Nat.mul_comm]
    refine sy_iload hG a93_82 rfl (sy_push (y := 9) hG a93_83 rfl (sy_bin2 hG a93_85 (sy_iload hG a93_86 rfl (sy_bin2 hG a93_87 ?_))))
    rw [e9]
    refine sy_istore hG a93_88 rfl (Nat.le_of_ble_eq_true rfl) rfl (sy_aload hG a93_90 rfl (sy_getf hG a93_91 (by omega) g1 rfl (Or.inr rfl) (sy_iload hG a93_94 rfl (sy_iload hG a93_96 rfl (sy_iast hG a93_98 (by omega) g6 (by omega) (i := 9 * c + a) (by omega) rfl ?_)))))
    have hS1 := hS.x' hb (j := 7) (N := 189) (by omega) (sy_up f6 (9 * c + a) tot)
    refine sy_aload hG a93_99 rfl (sy_getf hG a93_100 (by omega) hS1.2.1 rfl (Or.inr rfl) (sy_iload hG a93_103 rfl (sy_iload hG a93_105 rfl (sy_iast hG a93_107 (by omega) hS1.2.2.2.2.1 (by omega) (i := 9 * c + a) (by omega) rfl ?_))))
    have hS2 := hS1.p' hb (sy_up p (9 * c + a) ch)
    have hS2' := hS2
    obtain ⟨-, k1, -, -, -, ⟨k5, k5'⟩, -, ⟨k7, k7'⟩, -⟩ := hS2'
    have fin : ∀ x : Int32, G 131 ([(2, b, 0), sy_I (ev_i c), sy_I (ev_i a), sy_I able, sy_I tot, sy_I ch, sy_I sg].set 6 (sy_I (ev_i (9 * c + a)))) [sy_I x, sy_I (ev_i (9 * c + a)), (2, b + 5, 0)] E (ev_hs (ev_hs h (b + 7) (50, sy_R 189 (sy_up f6 (9 * c + a) tot))) (b + 6) (50, sy_R 189 (sy_up p (9 * c + a) ch))) := by
      intro x
      refine sy_iast hG a93_131 (by omega) k5' (by omega) (i := 9 * c + a) (by omega) rfl (sy_vret hG a93_132 (hF _ _ _ ⟨rfl, rfl, ch, hS2.x' hb (j := 5) (N := 189) (by omega) _, hch⟩))
    refine sy_aload hG a93_108 rfl (sy_getf hG a93_109 (by omega) k1 rfl (Or.inr rfl) (sy_iload hG a93_112 rfl (sy_iload hG a93_114 rfl (sy_push (y := -1) hG a93_116 sy_m1 (sy_icmp hG a93_117 (fun hn => ?_) (fun _ => ?_))))))
    · rcases hch with rfl | ⟨g, hg, rfl, -⟩
      · exact absurd rfl hn
      · exact sy_aload hG a93_124 rfl (sy_getf hG a93_125 (by omega) k1 rfl (Or.inr rfl) (sy_iload hG a93_128 rfl (sy_ald hG a93_130 (by omega) k7' (by omega) hg rfl (fin _))))
    · exact sy_push (y := 0) hG a93_120 rfl (sy_goto hG a93_121 (fin _))
  have loop : ∀ (n s : Nat), s + n = 8 → ∀ (tot ch : Int32), (ch = -1 ∨ ∃ g, g < 8 ∧ ch = ev_i g ∧ sy_bt able g = true) → G 9 [(2, b, 0), sy_I (ev_i c), sy_I (ev_i a), sy_I able, sy_I tot, sy_I ch, sy_I (ev_i s)] [] E h := by
    intro n
    induction n with
    | zero =>
      intro s hs tot ch hch
      refine sy_iload hG a93_9 rfl (sy_iload hG a93_10 rfl (sy_bin2 hG a93_12 (sy_ifc hG a93_13 (fun _ => tail _ _ _ hch) (fun _ => sy_iload hG a93_16 rfl (sy_push (y := 8) hG a93_18 rfl (sy_icmp hG a93_20 (fun _ => tail _ _ _ hch) (fun hn => ?_)))))))
      exact absurd ((sy_le (x := 8) (y := s) (by omega) (by omega)).mpr (by omega)) hn
    | succ n ih =>
      intro s hs tot ch hch
      have next : ∀ (tot ch : Int32), (ch = -1 ∨ ∃ g, g < 8 ∧ ch = ev_i g ∧ sy_bt able g = true) → G 76 [(2, b, 0), sy_I (ev_i c), sy_I (ev_i a), sy_I able, sy_I tot, sy_I ch, sy_I (ev_i s)] [] E h := by
        intro tot ch hch
        refine sy_iinc (y := 1) hG a93_76 rfl (x := ev_i s) rfl rfl rfl (sy_goto hG a93_79 ?_)
        rw [show ev_i s + 1 = ev_i (s + 1) from sy_add s 1]
        exact ih (s + 1) (by omega) tot ch hch
      refine sy_iload hG a93_9 rfl (sy_iload hG a93_10 rfl (sy_bin2 hG a93_12 (sy_ifc hG a93_13 (fun _ => tail _ _ _ hch) (fun _ => sy_iload hG a93_16 rfl (sy_push (y := 8) hG a93_18 rfl (sy_icmp hG a93_20 (fun _ => tail _ _ _ hch) (fun _ => ?_)))))))
      refine sy_iload hG a93_23 rfl (sy_iload hG a93_24 rfl (sy_stat (qs := [sy_I (ev_i s), sy_I able]) (r := []) hG a93_26 rfl rfl rfl (rd_isIn hen (i := s) (by omega)) hd' (fun v E' h' hp => ?_)))
      obtain ⟨rfl, hE', hh'⟩ := hp
      refine ⟨by show (0 : Nat) ≠ 12; decide, ?_⟩
      rw [sy_bhI, hE', hh']
      cases hbt : sy_bt able s
      · exact sy_ifc hG a93_29 (fun _ => next _ _ hch) (fun hn => absurd rfl hn)
      · refine sy_ifc hG a93_29 (fun hn => absurd (show (1 : Int32) = 0 from hn) (by decide)) (fun _ => ?_)
        refine sy_push (y := 1000000) hG a93_32 sy_mio (sy_iload hG a93_34 rfl (sy_aload hG a93_36 rfl (sy_getf hG a93_37 (by omega) g1 rfl (Or.inr rfl) (sy_iload hG a93_40 rfl (sy_ald hG a93_42 (by omega) g8 (by omega) (i := s) (by omega) rfl (sy_bin2 hG a93_43 (sy_mm hG a93_44 rfl (sy_istore hG a93_47 rfl (Nat.le_of_ble_eq_true rfl) rfl (sy_iload (x := ch) hG a93_49 rfl (sy_push (y := -1) hG a93_51 sy_m1 ?_))))))))))
        have take : ∀ tot : Int32, G 72 [(2, b, 0), sy_I (ev_i c), sy_I (ev_i a), sy_I able, sy_I tot, sy_I ch, sy_I (ev_i s)] [] E h := fun tot => sy_iload hG a93_72 rfl (sy_istore hG a93_74 rfl (Nat.le_of_ble_eq_true rfl) rfl (next tot (ev_i s) (Or.inr ⟨s, by omega, rfl, hbt⟩)))
        refine sy_icmp hG a93_52 (fun _ => take _) (fun hn => ?_)
        have hch' := hch
        rcases hch' with rfl | ⟨g, hg, rfl, -⟩
        · exact absurd rfl hn
        · exact sy_aload hG a93_55 rfl (sy_getf hG a93_56 (by omega) g1 rfl (Or.inr rfl) (sy_iload (x := ev_i s) hG a93_59 rfl (sy_ald hG a93_61 (by omega) g7 (by omega) (i := s) (by omega) rfl (sy_aload hG a93_62 rfl (sy_getf hG a93_63 (by omega) g1 rfl (Or.inr rfl) (sy_iload (x := ev_i g) hG a93_66 rfl (sy_ald hG a93_68 (by omega) g7 (by omega) hg rfl (sy_icmp hG a93_69 (fun _ => next _ _ hch) (fun _ => take _)))))))))
  show G 0 [(2, b, 0), sy_I (ev_i c), sy_I (ev_i a), sy_I able, (9, 0, 0), (9, 0, 0), (9, 0, 0)] [] E h
  exact sy_push (y := 0) hG a93_0 rfl (sy_istore hG a93_1 rfl (Nat.le_of_ble_eq_true rfl) rfl (sy_push (y := -1) hG a93_3 sy_m1 (sy_istore hG a93_4 rfl (Nat.le_of_ble_eq_true rfl) rfl (sy_push (y := 0) hG a93_6 rfl (sy_istore hG a93_7 rfl (Nat.le_of_ble_eq_true rfl) rfl (loop 8 0 rfl 0 (-1) (Or.inl rfl)))))))
