/-! THE READER BY HAND: its state as exact rows; isIn, answerAt, fits, goesOn, choose -/
theorem sy_add (x y : Nat) : ev_i x + ev_i y = ev_i (x + y) := (Int32.ofNat_add x y).symm
theorem sy_mul (x y : Nat) : ev_i x * ev_i y = ev_i (x * y) := (Int32.ofNat_mul x y).symm
theorem sy_k {x : Nat} (h : x < 2147483648) : ev_key (ev_i x) = 2147483648 + x := by rw [ev_key_of]; omega
theorem sy_lt {x y : Nat} (hx : x < 2147483648) (hy : y < 2147483648) : ev_i x < ev_i y ↔ x < y := by rw [ev_key_ltI, sy_k hx, sy_k hy]; omega
theorem sy_le {x y : Nat} (hx : x < 2147483648) (hy : y < 2147483648) : ev_i x ≤ ev_i y ↔ x ≤ y := by rw [ev_key_leI, sy_k hx, sy_k hy]; omega
theorem sy_bhI {x : Int32} {r : List ev_V} : sy_bh (sy_I x) r = sy_I x :: r := rfl
theorem sy_bh9 {r : List ev_V} : sy_bh (9, 0, 0) r = r := rfl
theorem rd_g {h : ev_H} {i j : Nat} {c c' : ev_C} (hi : i < 133) (hj : j < 133) (hn : j ≠ i) (hh : ev_hg h j = c') : ev_hg (ev_hs h i c) j = c' := by
  rw [ev_hg_hs h c (by omega) (by omega), if_neg hn]
  exact hh
theorem rd_e {h : ev_H} {i : Nat} {c : ev_C} (hi : i < 133) : ev_hg (ev_hs h i c) i = c := by rw [ev_hg_hs h c (by omega) (by omega), if_pos rfl]
def rd_o (b t : Nat) (lk fr tk : Int32) : List ev_V := [(2, b + 3, 0), sy_I lk, (2, b + 4, 0), (2, b + 7, 0), (2, t, 0), (2, b + 5, 0), sy_I fr, (2, b + 2, 0), sy_I tk, (2, b + 6, 0), (2, b + 1, 0), (2, b + 8, 0), (2, b + 9, 0), (2, b + 10, 0), (2, b + 11, 0)]
def rd_B (n : Nat) (f : Nat → Int32) : Prop := ∀ j, j < 20 → ∃ d, d < n ∧ f j = ev_i d
/-- a reader's cells: mownFrom, own, pick told; best, count, sums, counts, cells, signs any rows; all else as at the start -/
def rd_S (b t : Nat) (h0 h : ev_H) (lk fr tk : Int32) (m o p : Nat → Int32) : Prop :=
  (∀ k, k < 133 → k ≠ b → (k < b + 3 ∨ b + 11 < k) → ev_hg h k = ev_hg h0 k) ∧ ev_hg h b = (5, rd_o b t lk fr tk) ∧ ev_hg h (b + 3) = (50, sy_R 21 m) ∧ ev_hg h (b + 4) = (50, sy_R 21 o) ∧ ev_hg h (b + 6) = (50, sy_R 189 p) ∧
  (∃ f, ev_hg h (b + 5) = (50, sy_R 189 f)) ∧ (∃ f, ev_hg h (b + 7) = (50, sy_R 189 f)) ∧ (∃ f, ev_hg h (b + 8) = (50, sy_R 8 f)) ∧ (∃ f, ev_hg h (b + 9) = (50, sy_R 8 f)) ∧ (∃ f, rd_B 20 f ∧ ev_hg h (b + 10) = (50, sy_R 20 f)) ∧ (∃ f, rd_B 8 f ∧ ev_hg h (b + 11) = (50, sy_R 20 f))
/-- what it goes by, and never changes -/
def rd_T (b t : Nat) (h : ev_H) (s n : Nat) (L sh nb na w : Nat → Int32) : Prop :=
  (b = 47 ∨ b = 65) ∧ (t = 1 ∨ t = 17) ∧ s ≤ 20 ∧ n ≤ 8 ∧ (∀ g, g < 8 → ∃ q, q ≤ 6 ∧ L g = ev_i q) ∧
  (∃ lt, ev_hg h t = (8, lt) ∧ lt[0]? = some (sy_I (ev_i s)) ∧ lt[1]? = some (sy_I (ev_i n)) ∧ lt[4]? = some (2, t + 8, 0) ∧ lt[5]? = some (2, t + 9, 0) ∧ lt[14]? = some (2, t + 4, 0) ∧ lt[15]? = some (2, t + 5, 0)) ∧
  ev_hg h (t + 5) = (50, sy_R 8 L) ∧ ev_hg h (t + 4) = (50, sy_R 8 sh) ∧ ev_hg h (t + 8) = (50, sy_R 8 nb) ∧ ev_hg h (t + 9) = (50, sy_R 8 na) ∧ ev_hg h (b + 1) = (50, sy_R 160 w)
section RdS
variable {b t : Nat} {h0 h : ev_H} {lk fr tk : Int32} {m o p : Nat → Int32} {s n : Nat} {L sh nb na w : Nat → Int32}
theorem rd_T.of (hT : rd_T b t h0 s n L sh nb na w) (hS : rd_S b t h0 h lk fr tk m o p) : rd_T b t h s n L sh nb na w := by
  obtain ⟨h1, h2, h3, h4, h5, ⟨lt, g1, g2⟩, h7, h8, h9, h10, h11⟩ := hT
  have hf := hS.1
  refine ⟨h1, h2, h3, h4, h5, ⟨lt, ?_, g2⟩, ?_, ?_, ?_, ?_, ?_⟩
  · rw [hf t (by omega) (by omega) (by omega)]; exact g1
  · rw [hf (t + 5) (by omega) (by omega) (by omega)]; exact h7
  · rw [hf (t + 4) (by omega) (by omega) (by omega)]; exact h8
  · rw [hf (t + 8) (by omega) (by omega) (by omega)]; exact h9
  · rw [hf (t + 9) (by omega) (by omega) (by omega)]; exact h10
  · rw [hf (b + 1) (by omega) (by omega) (by omega)]; exact h11
theorem rd_S.m' (hS : rd_S b t h0 h lk fr tk m o p) (hb : b < 121) (f : Nat → Int32) : rd_S b t h0 (ev_hs h (b + 3) (50, sy_R 21 f)) lk fr tk f o p := by
  obtain ⟨g0, g1, g2, g3, g4, ⟨f5, g5⟩, ⟨f6, g6⟩, ⟨f7, g7⟩, ⟨f8, g8⟩, ⟨f9, g9⟩, ⟨f10, g10⟩⟩ := hS
  exact ⟨fun k hk h1 h2 => rd_g (by omega) hk (by omega) (g0 k hk h1 h2), rd_g (by omega) (by omega) (by omega) g1, rd_e (by omega), rd_g (by omega) (by omega) (by omega) g3, rd_g (by omega) (by omega) (by omega) g4, ⟨f5, rd_g (by omega) (by omega) (by omega) g5⟩, ⟨f6, rd_g (by omega) (by omega) (by omega) g6⟩, ⟨f7, rd_g (by omega) (by omega) (by omega) g7⟩, ⟨f8, rd_g (by omega) (by omega) (by omega) g8⟩, ⟨f9, g9.1, rd_g (by omega) (by omega) (by omega) g9.2⟩, ⟨f10, g10.1, rd_g (by omega) (by omega) (by omega) g10.2⟩⟩
theorem rd_S.o' (hS : rd_S b t h0 h lk fr tk m o p) (hb : b < 121) (f : Nat → Int32) : rd_S b t h0 (ev_hs h (b + 4) (50, sy_R 21 f)) lk fr tk m f p := by
  obtain ⟨g0, g1, g2, g3, g4, ⟨f5, g5⟩, ⟨f6, g6⟩, ⟨f7, g7⟩, ⟨f8, g8⟩, ⟨f9, g9⟩, ⟨f10, g10⟩⟩ := hS
  exact ⟨fun k hk h1 h2 => rd_g (by omega) hk (by omega) (g0 k hk h1 h2), rd_g (by omega) (by omega) (by omega) g1, rd_g (by omega) (by omega) (by omega) g2, rd_e (by omega), rd_g (by omega) (by omega) (by omega) g4, ⟨f5, rd_g (by omega) (by omega) (by omega) g5⟩, ⟨f6, rd_g (by omega) (by omega) (by omega) g6⟩, ⟨f7, rd_g (by omega) (by omega) (by omega) g7⟩, ⟨f8, rd_g (by omega) (by omega) (by omega) g8⟩, ⟨f9, g9.1, rd_g (by omega) (by omega) (by omega) g9.2⟩, ⟨f10, g10.1, rd_g (by omega) (by omega) (by omega) g10.2⟩⟩
theorem rd_S.p' (hS : rd_S b t h0 h lk fr tk m o p) (hb : b < 121) (f : Nat → Int32) : rd_S b t h0 (ev_hs h (b + 6) (50, sy_R 189 f)) lk fr tk m o f := by
  obtain ⟨g0, g1, g2, g3, g4, ⟨f5, g5⟩, ⟨f6, g6⟩, ⟨f7, g7⟩, ⟨f8, g8⟩, ⟨f9, g9⟩, ⟨f10, g10⟩⟩ := hS
  exact ⟨fun k hk h1 h2 => rd_g (by omega) hk (by omega) (g0 k hk h1 h2), rd_g (by omega) (by omega) (by omega) g1, rd_g (by omega) (by omega) (by omega) g2, rd_g (by omega) (by omega) (by omega) g3, rd_e (by omega), ⟨f5, rd_g (by omega) (by omega) (by omega) g5⟩, ⟨f6, rd_g (by omega) (by omega) (by omega) g6⟩, ⟨f7, rd_g (by omega) (by omega) (by omega) g7⟩, ⟨f8, rd_g (by omega) (by omega) (by omega) g8⟩, ⟨f9, g9.1, rd_g (by omega) (by omega) (by omega) g9.2⟩, ⟨f10, g10.1, rd_g (by omega) (by omega) (by omega) g10.2⟩⟩
/-- one of the other rows -/
theorem rd_S.x' (hS : rd_S b t h0 h lk fr tk m o p) (hb : b < 121) {j N : Nat} (hj : j = 5 ∧ N = 189 ∨ j = 7 ∧ N = 189 ∨ j = 8 ∧ N = 8 ∨ j = 9 ∧ N = 8) (f : Nat → Int32) : rd_S b t h0 (ev_hs h (b + j) (50, sy_R N f)) lk fr tk m o p := by
  obtain ⟨g0, g1, g2, g3, g4, ⟨f5, g5⟩, ⟨f6, g6⟩, ⟨f7, g7⟩, ⟨f8, g8⟩, ⟨f9, g9⟩, ⟨f10, g10⟩⟩ := hS
  have hj2 : 5 ≤ j ∧ j ≤ 11 ∧ j ≠ 6 := by omega
  have key : ∀ (i N' : Nat) (f' : Nat → Int32), 5 ≤ i → i ≤ 11 → (i = j → N' = N) → ev_hg h (b + i) = (50, sy_R N' f') → ∃ f'', ev_hg (ev_hs h (b + j) (50, sy_R N f)) (b + i) = (50, sy_R N' f'') := by
    intro i N' f' h1 h2 h3 h4
    by_cases hij : i = j
    · subst hij
      rw [h3 rfl]
      exact ⟨f, rd_e (by omega)⟩
    · exact ⟨f', rd_g (by omega) (by omega) (by omega) h4⟩
  exact ⟨fun k hk h1 h2 => rd_g (by omega) hk (by omega) (g0 k hk h1 h2), rd_g (by omega) (by omega) (by omega) g1, rd_g (by omega) (by omega) (by omega) g2, rd_g (by omega) (by omega) (by omega) g3, rd_g (by omega) (by omega) (by omega) g4, key 5 189 f5 (by omega) (by omega) (by omega) g5, key 7 189 f6 (by omega) (by omega) (by omega) g6, key 8 8 f7 (by omega) (by omega) (by omega) g7, key 9 8 f8 (by omega) (by omega) (by omega) g8, ⟨f9, g9.1, rd_g (by omega) (by omega) (by omega) g9.2⟩, ⟨f10, g10.1, rd_g (by omega) (by omega) (by omega) g10.2⟩⟩
theorem rd_S.c' (hS : rd_S b t h0 h lk fr tk m o p) (hb : b < 121) {f : Nat → Int32} (hf : rd_B 20 f) : rd_S b t h0 (ev_hs h (b + 10) (50, sy_R 20 f)) lk fr tk m o p := by
  obtain ⟨g0, g1, g2, g3, g4, ⟨f5, g5⟩, ⟨f6, g6⟩, ⟨f7, g7⟩, ⟨f8, g8⟩, ⟨f9, g9⟩, ⟨f10, g10⟩⟩ := hS
  exact ⟨fun k hk h1 h2 => rd_g (by omega) hk (by omega) (g0 k hk h1 h2), rd_g (by omega) (by omega) (by omega) g1, rd_g (by omega) (by omega) (by omega) g2, rd_g (by omega) (by omega) (by omega) g3, rd_g (by omega) (by omega) (by omega) g4, ⟨f5, rd_g (by omega) (by omega) (by omega) g5⟩, ⟨f6, rd_g (by omega) (by omega) (by omega) g6⟩, ⟨f7, rd_g (by omega) (by omega) (by omega) g7⟩, ⟨f8, rd_g (by omega) (by omega) (by omega) g8⟩, ⟨f, hf, rd_e (by omega)⟩, ⟨f10, g10.1, rd_g (by omega) (by omega) (by omega) g10.2⟩⟩
theorem rd_S.s' (hS : rd_S b t h0 h lk fr tk m o p) (hb : b < 121) {f : Nat → Int32} (hf : rd_B 8 f) : rd_S b t h0 (ev_hs h (b + 11) (50, sy_R 20 f)) lk fr tk m o p := by
  obtain ⟨g0, g1, g2, g3, g4, ⟨f5, g5⟩, ⟨f6, g6⟩, ⟨f7, g7⟩, ⟨f8, g8⟩, ⟨f9, g9⟩, ⟨f10, g10⟩⟩ := hS
  exact ⟨fun k hk h1 h2 => rd_g (by omega) hk (by omega) (g0 k hk h1 h2), rd_g (by omega) (by omega) (by omega) g1, rd_g (by omega) (by omega) (by omega) g2, rd_g (by omega) (by omega) (by omega) g3, rd_g (by omega) (by omega) (by omega) g4, ⟨f5, rd_g (by omega) (by omega) (by omega) g5⟩, ⟨f6, rd_g (by omega) (by omega) (by omega) g6⟩, ⟨f7, rd_g (by omega) (by omega) (by omega) g7⟩, ⟨f8, rd_g (by omega) (by omega) (by omega) g8⟩, ⟨f9, g9.1, rd_g (by omega) (by omega) (by omega) g9.2⟩, ⟨f, hf, rd_e (by omega)⟩⟩
theorem rd_S.b' (hS : rd_S b t h0 h lk fr tk m o p) (hb : b < 121) (lk' fr' tk' : Int32) : rd_S b t h0 (ev_hs h b (5, rd_o b t lk' fr' tk')) lk' fr' tk' m o p := by
  obtain ⟨g0, g1, g2, g3, g4, ⟨f5, g5⟩, ⟨f6, g6⟩, ⟨f7, g7⟩, ⟨f8, g8⟩, ⟨f9, g9⟩, ⟨f10, g10⟩⟩ := hS
  exact ⟨fun k hk h1 h2 => rd_g (by omega) hk (by omega) (g0 k hk h1 h2), rd_e (by omega), rd_g (by omega) (by omega) (by omega) g2, rd_g (by omega) (by omega) (by omega) g3, rd_g (by omega) (by omega) (by omega) g4, ⟨f5, rd_g (by omega) (by omega) (by omega) g5⟩, ⟨f6, rd_g (by omega) (by omega) (by omega) g6⟩, ⟨f7, rd_g (by omega) (by omega) (by omega) g7⟩, ⟨f8, rd_g (by omega) (by omega) (by omega) g8⟩, ⟨f9, g9.1, rd_g (by omega) (by omega) (by omega) g9.2⟩, ⟨f10, g10.1, rd_g (by omega) (by omega) (by omega) g10.2⟩⟩
end RdS
/-- where mownFrom leads -/
def rd_M (m : Nat → Int32) : Prop := ∀ j, j < 21 → ∃ d, d < 21 ∧ m j = ev_i d
theorem rd_isIn (hen : en_ok) {l : Launch} {x : Int32} {i : Nat} (hi : i < 32) {E : e2_E} {h : ev_H} : sy_C l 1 159 [sy_I x, sy_I (ev_i i)] E h (fun v E' h' => v = sy_I (if sy_bt x i then 1 else 0) ∧ E' = E ∧ h' = h) := by
  refine sy_con (D := 0) (C := evd_159) (X := e2x_159) [] hen ei_159 ex2_159 (Nat.le_of_ble_eq_true rfl) fun d F G _ hF hG => ?_
  show G 0 [sy_I x, sy_I (ev_i i)] [] E h
  have hz : ev_ushr x (ev_i i) &&& 1 = 0 ↔ sy_bt x i = false := by rw [(sy_and1 _).2, sy_bt_ushr i hi x 0, Nat.add_zero]
  refine sy_iload hG a159_0 rfl (sy_iload hG a159_1 rfl (sy_bin2 hG a159_2 (sy_push (y := 1) hG a159_3 rfl (sy_bin2 hG a159_4 (sy_ifc hG a159_5 (fun hb => ?_) (fun hb => ?_))))))
  · have hb := hz.mp hb
    exact sy_push (y := 0) hG a159_12 rfl (sy_iret hG a159_13 (Or.inr ⟨rfl, Or.inl rfl⟩) (hF _ _ _ ⟨by rw [hb]; rfl, rfl, rfl⟩))
  · have hb : sy_bt x i = true := by
      cases hq : sy_bt x i
      · exact absurd (hz.mpr hq) hb
      · rfl
    exact sy_push (y := 1) hG a159_8 rfl (sy_goto hG a159_9 (sy_iret hG a159_13 (Or.inr ⟨rfl, Or.inr rfl⟩) (hF _ _ _ ⟨by rw [hb]; rfl, rfl, rfl⟩)))
theorem rd_answerAt (hen : en_ok) {l : Launch} {b t c a d : Nat} {h0 h : ev_H} {lk fr tk : Int32} {m o p : Nat → Int32} {E : e2_E} (hS : rd_S b t h0 h lk fr tk m o p) (hb : b < 121) (hc : c < 21) (hd : d < 21) (hm : m c = ev_i d) (ha : a ≤ 8) :
    sy_C l 1 90 [(2, b, 0), sy_I (ev_i c), sy_I (ev_i a)] E h (fun v E' h' => v = sy_I (ev_i (9 * d + (if sy_bt (o d) a then a else 8))) ∧ E' = E ∧ h' = h) := by
  obtain ⟨g0, g1, g2, g3, -⟩ := hS
  refine sy_con (D := 0) (C := evd_90) (X := e2x_90) [] hen ei_90 ex2_90 (Nat.le_of_ble_eq_true rfl) fun d' F G _ hF hG => ?_
  show G 0 [(2, b, 0), sy_I (ev_i c), sy_I (ev_i a), (9, 0, 0), (9, 0, 0)] [] E h
  refine sy_aload hG a90_0 rfl (sy_getf hG a90_1 (by omega) g1 rfl (Or.inr rfl) (sy_iload hG a90_4 rfl (sy_ald hG a90_5 (by omega) g2 (by omega) hc rfl ?_)))
  rw [hm]
  refine sy_istore hG a90_6 rfl (Nat.le_of_ble_eq_true rfl) rfl (sy_aload hG a90_7 rfl (sy_getf hG a90_8 (by omega) g1 rfl (Or.inr rfl) (sy_iload hG a90_11 rfl (sy_ald hG a90_12 (by omega) g3 (by omega) hd rfl (sy_iload hG a90_13 rfl (sy_bin2 hG a90_14 (sy_push (y := 1) hG a90_15 rfl (sy_bin2 hG a90_16 ?_))))))))
  have hz : ev_ushr (o d) (ev_i a) &&& 1 = 0 ↔ sy_bt (o d) a = false := by rw [(sy_and1 _).2, sy_bt_ushr a (by omega) (o d) 0, Nat.add_zero]
  have e9 : eb_mul (ev_i d) 9 = ev_i (9 * d) := by show ev_i d * ev_i 9 = _; rw [sy_mul, Nat.mul_comm]
  refine sy_ifc hG a90_17 (fun hq => ?_) (fun hq => ?_)
  · have hq := hz.mp hq
    refine sy_push (y := 0) hG a90_24 rfl (sy_istore hG a90_25 rfl (Nat.le_of_ble_eq_true rfl) rfl (sy_iload hG a90_27 rfl (sy_push (y := 9) hG a90_28 rfl (sy_bin2 hG a90_30 (sy_iload (x := 0) hG a90_31 rfl (sy_ifc hG a90_33 (fun _ => ?_) (fun hn => absurd rfl hn)))))))
    rw [e9]
    refine sy_push (y := 8) hG a90_40 rfl (sy_bin2 hG a90_42 (sy_iret hG a90_43 (Or.inl rfl) (hF _ _ _ ⟨?_, rfl, rfl⟩)))
    rw [hq, show eb_add (ev_i (9 * d)) 8 = ev_i (9 * d + 8) from sy_add (9 * d) 8]
    rfl
  · have hq : sy_bt (o d) a = true := by
      cases hq2 : sy_bt (o d) a
      · exact absurd (hz.mpr hq2) hq
      · rfl
    refine sy_push (y := 1) hG a90_20 rfl (sy_goto hG a90_21 (sy_istore hG a90_25 rfl (Nat.le_of_ble_eq_true rfl) rfl (sy_iload hG a90_27 rfl (sy_push (y := 9) hG a90_28 rfl (sy_bin2 hG a90_30 (sy_iload (x := 1) hG a90_31 rfl (sy_ifc hG a90_33 (fun hn => absurd (show (1 : Int32) = 0 from hn) (by decide)) (fun _ => ?_))))))))
    rw [e9]
    refine sy_iload hG a90_36 rfl (sy_goto hG a90_37 (sy_bin2 hG a90_42 (sy_iret hG a90_43 (Or.inl rfl) (hF _ _ _ ⟨?_, rfl, rfl⟩))))
    rw [hq, show eb_add (ev_i (9 * d)) (ev_i a) = ev_i (9 * d + a) from sy_add (9 * d) a]
    rfl
theorem rd_fits (hen : en_ok) {l : Launch} {b t g c s n : Nat} {h : ev_H} {lk : Int32} {L sh nb na w : Nat → Int32} {E : e2_E} (hT : rd_T b t h s n L sh nb na w) (hg : g < 8) (hc : c < 21) :
    sy_C l 1 121 [(2, t, 0), sy_I (ev_i g), sy_I (ev_i c), sy_I lk] E h (fun v E' h' => E' = E ∧ h' = h ∧ (v = sy_I 0 ∨ v = sy_I 1 ∧ ∃ q, q ≤ 6 ∧ L g = ev_i q ∧ c + q ≤ s)) := by
  obtain ⟨h1, h2, h3, h4, h5, ⟨lt, k1, k2, k3, k4, k5, k6, k7⟩, h7, h8, h9, h10, h11⟩ := hT
  obtain ⟨q, hq, hL⟩ := h5 g hg
  refine sy_con (D := 0) (C := evd_121) (X := e2x_121) [] hen ei_121 ex2_121 (Nat.le_of_ble_eq_true rfl) fun d' F G _ hF hG => ?_
  show G 0 [(2, t, 0), sy_I (ev_i g), sy_I (ev_i c), sy_I lk, (9, 0, 0)] [] E h
  refine sy_aload hG a121_0 rfl (sy_getf hG a121_1 (by omega) k1 k7 (Or.inr rfl) (sy_iload hG a121_4 rfl (sy_ald hG a121_5 (by omega) h7 (by omega) hg rfl (sy_istore hG a121_6 rfl (Nat.le_of_ble_eq_true rfl) rfl (sy_iload hG a121_8 rfl (sy_iload (x := L g) hG a121_9 rfl (sy_bin2 hG a121_11 (sy_aload hG a121_12 rfl (sy_getf hG a121_13 (by omega) k1 k2 (Or.inl rfl) ?_)))))))))
  have hno : G 42 ([(2, t, 0), sy_I (ev_i g), sy_I (ev_i c), sy_I lk, (9, 0, 0)].set 4 (sy_I (L g))) [] E h := sy_push (y := 0) hG a121_42 rfl (sy_iret hG a121_43 (Or.inr ⟨rfl, Or.inl rfl⟩) (hF _ _ _ ⟨rfl, rfl, Or.inl rfl⟩))
  refine sy_icmp hG a121_16 (fun _ => hno) (fun hn => ?_)
  have hcs : c + q ≤ s := by
    have hn : ¬ ev_i s < ev_i c + L g := hn
    rw [hL, sy_add, sy_lt (by omega) (by omega)] at hn
    omega
  refine sy_iload hG a121_19 rfl (sy_iload hG a121_20 rfl (sy_bin2 hG a121_21 (sy_push (y := 1) hG a121_22 rfl (sy_iload (x := L g) hG a121_23 rfl (sy_bin2 hG a121_25 (sy_push (y := 1) hG a121_26 rfl (sy_bin2 hG a121_27 (sy_bin2 hG a121_28 (sy_aload hG a121_29 rfl (sy_getf hG a121_30 (by omega) k1 k6 (Or.inr rfl) (sy_iload hG a121_33 rfl (sy_ald hG a121_34 (by omega) h8 (by omega) hg rfl (sy_icmp hG a121_35 (fun _ => hno) (fun _ => ?_))))))))))))))
  exact sy_push (y := 1) hG a121_38 rfl (sy_goto hG a121_39 (sy_iret hG a121_43 (Or.inr ⟨rfl, Or.inr rfl⟩) (hF _ _ _ ⟨rfl, rfl, Or.inr ⟨rfl, q, hq, hL, hcs⟩⟩)))
theorem rd_goesOn (hen : en_ok) {l : Launch} {b t g c s n q : Nat} {h0 h : ev_H} {lk fr tk : Int32} {m o p L sh nb na w : Nat → Int32} {E : e2_E} (hT : rd_T b t h0 s n L sh nb na w) (hS : rd_S b t h0 h lk fr tk m o p) (hM : rd_M m) (hg : g < 8) (hc : c < 20) (hL : L g = ev_i q) (hq : c + q ≤ 20) :
    sy_C l 2 92 [(2, b, 0), sy_I (ev_i g), sy_I (ev_i c)] E h (fun v E' h' => E' = E ∧ rd_S b t h0 h' lk fr tk m o p ∧ (v = sy_I 0 ∨ v = sy_I 1)) := by
  have hT' := hT.of hS
  have hS' := hS
  obtain ⟨h1, h2, h3, h4, h5, ⟨lt, k1, k2, k3, k4, k5, k6, k7⟩, h7, h8, h9, h10, h11⟩ := hT'
  obtain ⟨g0, g1, g2, g3, g4, ⟨f5, g5⟩, ⟨f6, g6⟩, ⟨f7, g7⟩, ⟨f8, g8⟩, -⟩ := hS'
  obtain ⟨d, hd, hmd⟩ := hM (c + q) (by omega)
  refine sy_con (D := 1) (C := evd_92) (X := e2x_92) [] hen ei_92 ex2_92 (Nat.le_of_ble_eq_true rfl) fun d' F G hd' hF hG => ?_
  show G 0 [(2, b, 0), sy_I (ev_i g), sy_I (ev_i c), (9, 0, 0)] [] E h
  refine sy_aload hG a92_0 rfl (sy_iload hG a92_1 rfl (sy_aload hG a92_2 rfl (sy_getf hG a92_3 (by omega) g1 rfl (Or.inr rfl) (sy_getf hG a92_6 (by omega) k1 k7 (Or.inr rfl) (sy_iload hG a92_9 rfl (sy_ald hG a92_10 (by omega) h7 (by omega) hg rfl (sy_bin2 hG a92_11 ?_)))))))
  rw [hL, show eb_add (ev_i c) (ev_i q) = ev_i (c + q) from sy_add c q]
  refine sy_iload hG a92_12 rfl (sy_virt (qs := [sy_I (ev_i g), sy_I (ev_i (c + q))]) (r := []) hG a92_13 rfl rfl (by omega) g1 rfl (rd_answerAt hen hS (by omega) (by omega) hd hmd (by omega)) hd' (fun v E' h' hp => ?_))
  obtain ⟨rfl, rfl, rfl⟩ := hp
  refine ⟨by show (0 : Nat) ≠ 12; decide, ?_⟩
  rw [sy_bhI]
  have hz : 9 * d + (if sy_bt (o d) g then g else 8) < 189 := by cases sy_bt (o d) g <;> simp <;> omega
  generalize 9 * d + (if sy_bt (o d) g then g else 8) = z at hz
  refine sy_istore hG a92_16 rfl (Nat.le_of_ble_eq_true rfl) rfl (sy_aload hG a92_17 rfl (sy_getf hG a92_18 (by omega) g1 rfl (Or.inr rfl) (sy_iload (x := ev_i z) hG a92_21 rfl (sy_ald hG a92_22 (by omega) g6 (by omega) hz rfl (sy_ifc hG a92_23 (fun _ => ?_) (fun _ => ?_))))))
  rotate_left
  · exact sy_push (y := 0) hG a92_26 rfl (sy_iret hG a92_27 (Or.inr ⟨rfl, Or.inl rfl⟩) (hF _ _ _ ⟨rfl, hS, Or.inl rfl⟩))
  refine sy_aload hG a92_28 rfl (sy_getf hG a92_29 (by omega) g1 rfl (Or.inr rfl) (sy_iload hG a92_32 rfl (sy_aload hG a92_33 rfl (sy_getf hG a92_34 (by omega) g1 rfl (Or.inr rfl) (sy_iload (x := ev_i z) hG a92_37 rfl (sy_ald hG a92_38 (by omega) g6 (by omega) hz rfl (sy_iast hG a92_39 (by omega) g8 (by omega) hg rfl ?_)))))))
  have hS2 := hS.x' (by omega) (j := 9) (N := 8) (by omega) (sy_up f8 g (f6 z))
  have hS2' := hS2
  obtain ⟨-, g1, -, -, -, ⟨f5, g5⟩, ⟨f6', g6⟩, ⟨f7, g7⟩, -⟩ := hS2'
  have h11 := (hT.of hS2).2.2.2.2.2.2.2.2.2.2
  refine sy_aload hG a92_40 rfl (sy_getf hG a92_41 (by omega) g1 rfl (Or.inr rfl) (sy_iload hG a92_44 rfl (sy_aload hG a92_45 rfl (sy_getf hG a92_46 (by omega) g1 rfl (Or.inr rfl) (sy_iload (x := ev_i z) hG a92_49 rfl (sy_ald hG a92_50 (by omega) g5 (by omega) hz rfl (sy_aload hG a92_51 rfl (sy_getf hG a92_52 (by omega) g1 rfl (Or.inr rfl) (sy_iload hG a92_55 rfl (sy_push (y := 20) hG a92_56 rfl (sy_bin2 hG a92_58 (sy_iload hG a92_59 rfl (sy_bin2 hG a92_60 ?_)))))))))))))
  have e20 : eb_add (eb_mul (ev_i g) 20) (ev_i c) = ev_i (20 * g + c) := by show ev_i g * ev_i 20 + ev_i c = _; rw [sy_mul, sy_add, Nat.mul_comm]
  refine sy_ald hG a92_61 (by omega) h11 (by omega) (i := 20 * g + c) (by omega) e20 (sy_bin2 hG a92_62 (sy_iast hG a92_63 (by omega) g7 (by omega) hg rfl ?_))
  exact sy_push (y := 1) hG a92_64 rfl (sy_iret hG a92_65 (Or.inr ⟨rfl, Or.inr rfl⟩) (hF _ _ _ ⟨rfl, hS2.x' (by omega) (j := 8) (N := 8) (by omega) _, Or.inr rfl⟩))
