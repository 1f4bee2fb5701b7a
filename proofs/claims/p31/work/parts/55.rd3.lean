/-! THE READER BY HAND: settle -/
def rd_ok (L : Nat → Int32) (s d : Nat) (q : Int32) : Prop := q = -1 ∨ ∃ g t, g < 8 ∧ q = ev_i g ∧ L g = ev_i t ∧ t ≤ 6 ∧ d + t ≤ s
/-- from the cell k on: where each leads, and there every sign that may be picked ends at s or before -/
def rd_J (m o p L : Nat → Int32) (s k : Nat) : Prop := ∀ c, k ≤ c → c < s → ∃ d, m c = ev_i d ∧ c ≤ d ∧ d ≤ s ∧ (d < s → m d = ev_i d ∧ ∀ a, a ≤ 8 → rd_ok L s d (p (9 * d + (if sy_bt (o d) a then a else 8))))
/-- signs that end at s or before, if they begin at c -/
def rd_A (L : Nat → Int32) (s c : Nat) (able : Int32) : Prop := ∀ g, sy_bt able g = true → g < 8 ∧ ∃ t, L g = ev_i t ∧ t ≤ 6 ∧ c + t ≤ s
theorem sy_bt_0 (i : Nat) : sy_bt 0 i = false := by simp [sy_bt]
theorem sy_bt_big {x : Int32} {i : Nat} (h : 32 ≤ i) : sy_bt x i = false := BitVec.getLsbD_of_ge _ _ h
theorem sy_ushr_0 {x : Int32} {a : Nat} (ha : a < 32) (h : ev_ushr x (ev_i a) = 0) {i : Nat} (hi : a ≤ i) : sy_bt x i = false := by
  have := sy_bt_ushr a ha x (i - a)
  rw [h, sy_bt_0, show a + (i - a) = i by omega] at this
  exact this.symm
theorem sy_0_of {x : Int32} (h : ∀ i, i < 32 → sy_bt x i = false) : x = 0 := Int32.toBitVec_inj.mp (BitVec.eq_of_getLsbD_eq fun i hi => by rw [show x.toBitVec.getLsbD i = false from h i hi]; exact (sy_bt_0 i).symm)
theorem rd_A.zero {L : Nat → Int32} {s c : Nat} : rd_A L s c 0 := fun g hg => by rw [sy_bt_0] at hg; cases hg
theorem rd_A.ok {L : Nat → Int32} {s c : Nat} {able q : Int32} (hA : rd_A L s c able) (hq : q = -1 ∨ ∃ g, g < 8 ∧ q = ev_i g ∧ sy_bt able g = true) : rd_ok L s c q := by
  rcases hq with hq | ⟨g, h1, h2, h3⟩
  · exact Or.inl hq
  · obtain ⟨h4, t, h5, h6, h7⟩ := hA g h3
    exact Or.inr ⟨g, t, h4, h2, h5, h6, h7⟩
theorem rd_ok.q8 {L : Nat → Int32} {s c : Nat} {q : Int32} (h : rd_ok L s c q) : rd_q8 q := by
  rcases h with h | ⟨g, t, h1, h2, -⟩
  · exact Or.inl h
  · exact Or.inr ⟨g, h1, h2⟩
theorem rd_A.or {L : Nat → Int32} {s c g t : Nat} {able : Int32} (hA : rd_A L s c able) (hg : g < 8) (hL : L g = ev_i t) (ht : t ≤ 6) (hc : c + t ≤ s) : rd_A L s c (eb_or able (eb_shl 1 (ev_i g))) := by
  intro i hi
  have hi : sy_bt (able ||| (1 <<< (ev_i g &&& 31))) i = true := hi
  rw [sy_bt_or] at hi
  cases hb : sy_bt able i
  · rw [hb, Bool.false_or] at hi
    by_cases h32 : i < 32
    · rw [sy_bt_shl g (by omega) 1 h32, Bool.and_eq_true] at hi
      obtain ⟨h1, h2⟩ := hi
      have h1 : g ≤ i := of_decide_eq_true h1
      rw [sy_bt_1 (i - g) (by omega)] at h2
      have h2 : i - g = 0 := of_decide_eq_true h2
      have : i = g := by omega
      subst this
      exact ⟨hg, t, hL, ht, hc⟩
    · rw [sy_bt_big (by omega)] at hi
      cases hi
  · exact hA i hb
theorem rd_A.and {L : Nat → Int32} {s c : Nat} {able : Int32} (hA : rd_A L s c able) (x : Int32) : rd_A L s c (eb_and able x) := by
  intro i hi
  have hi : sy_bt (able &&& x) i = true := hi
  rw [sy_bt_and, Bool.and_eq_true] at hi
  exact hA i hi.1
theorem sy_up_e {f : Nat → Int32} {i : Nat} {x : Int32} : sy_up f i x i = x := if_pos rfl
theorem sy_up_n {f : Nat → Int32} {i j : Nat} {x : Int32} (h : j ≠ i) : sy_up f i x j = f j := if_neg h
theorem rd_J.skip {m o p L : Nat → Int32} {s c : Nat} (hJ : rd_J m o p L s (c + 1)) (hc : c < s) (hms : m s = ev_i s) : rd_J (sy_up m c (m (c + 1))) o p L s c := by
  intro x hx hxs
  by_cases hxc : x = c
  · subst hxc
    by_cases h1 : x + 1 = s
    · exact ⟨s, by rw [sy_up_e, h1]; exact hms, by omega, Nat.le_refl _, fun z => absurd z (Nat.lt_irrefl _)⟩
    · obtain ⟨d, e1, e2, e3, e4⟩ := hJ (x + 1) (Nat.le_refl _) (by omega)
      exact ⟨d, by rw [sy_up_e]; exact e1, by omega, e3, fun hd => ⟨by rw [sy_up_n (by omega)]; exact (e4 hd).1, (e4 hd).2⟩⟩
  · obtain ⟨d, e1, e2, e3, e4⟩ := hJ x (by omega) hxs
    exact ⟨d, by rw [sy_up_n hxc]; exact e1, e2, e3, fun hd => ⟨by rw [sy_up_n (by omega)]; exact (e4 hd).1, (e4 hd).2⟩⟩
theorem rd_J.mown {m o p p' L : Nat → Int32} {s c : Nat} {barred : Int32} (hJ : rd_J m o p L s (c + 1)) (hc : c < s) (hfr : ∀ j, 9 * (c + 1) ≤ j → p' j = p j) (h8 : rd_ok L s c (p' (9 * c + 8))) (hb : ∀ a, a < 8 → sy_bt barred a = true → rd_ok L s c (p' (9 * c + a))) : rd_J (sy_up m c (ev_i c)) (sy_up o c barred) p' L s c := by
  intro x hx hxs
  by_cases hxc : x = c
  · subst hxc
    refine ⟨x, sy_up_e, Nat.le_refl _, by omega, fun _ => ⟨sy_up_e, fun a ha => ?_⟩⟩
    rw [sy_up_e]
    cases hq : sy_bt barred a
    · exact h8
    · by_cases ha8 : a = 8
      · subst ha8
        exact h8
      · exact hb a (by omega) hq
  · obtain ⟨d, e1, e2, e3, e4⟩ := hJ x (by omega) hxs
    refine ⟨d, by rw [sy_up_n hxc]; exact e1, e2, e3, fun hd => ?_⟩
    obtain ⟨e5, e6⟩ := e4 hd
    refine ⟨by rw [sy_up_n (by omega)]; exact e5, fun a ha => ?_⟩
    rw [sy_up_n (by omega), hfr _ (Nat.le_trans (Nat.mul_le_mul_left 9 (by omega)) (Nat.le_add_right _ _))]
    exact e6 a ha
theorem rd_M.up {m : Nat → Int32} (hM : rd_M m) {i d : Nat} {x : Int32} (hd : d < 21) (hx : x = ev_i d) : rd_M (sy_up m i x) := fun j hj => by
  by_cases hji : j = i
  · subst hji
    exact ⟨d, hd, by rw [sy_up_e]; exact hx⟩
  · rw [sy_up_n hji]
    exact hM j hj
theorem rd_settle (hen : en_ok) {l : Launch} {b t c s n : Nat} {h0 hh : ev_H} {lk fr tk : Int32} {m o p L sh nb na w : Nat → Int32} {E : e2_E} (hT : rd_T b t h0 s n L sh nb na w) (hS : rd_S b t h0 hh lk fr tk m o p) (hM : rd_M m) (hP : rd_P p) (hms : m s = ev_i s) (hc : c < s) (hJ : rd_J m o p L s (c + 1)) :
    sy_C l 3 91 [(2, b, 0), sy_I (ev_i c)] E hh (fun v E' h' => v = (9, 0, 0) ∧ E' = E ∧ ∃ m' o' p', rd_S b t h0 h' lk fr tk m' o' p' ∧ rd_M m' ∧ rd_P p' ∧ m' s = ev_i s ∧ rd_J m' o' p' L s c) := by
  have hb := hT.1
  have ht := hT.2.1
  have hs20 := hT.2.2.1
  have hn8 := hT.2.2.2.1
  refine sy_con (D := 2) (C := evd_91) (X := hx_91) [] hen ei_91 hxe_91 (Nat.le_of_ble_eq_true rfl) fun d' F G hd' hF hG => ?_
  have hM1 : rd_M (sy_up m c (ev_i c)) := hM.up (by omega) rfl
  have hms1 : sy_up m c (ev_i c) s = ev_i s := by rw [sy_up_n (by omega)]; exact hms
  have fin : ∀ (h : ev_H) (p' : Nat → Int32) (able barred sg : Int32), rd_S b t h0 h lk fr tk (sy_up m c (ev_i c)) (sy_up o c barred) p' → rd_P p' → (∀ j, 9 * (c + 1) ≤ j → p' j = p j) → rd_ok L s c (p' (9 * c + 8)) → (∀ a, a < 8 → sy_bt barred a = true → rd_ok L s c (p' (9 * c + a))) → G 173 [(2, b, 0), sy_I (ev_i c), sy_I able, sy_I barred, sy_I sg] [] E h := by
    intro h p' able barred sg hS' hP' hfr h8 hb8
    exact sy_vret hG a91_173 (hF _ _ _ ⟨rfl, rfl, _, _, _, hS', hM1, hP', hms1, hJ.mown hc hfr h8 hb8⟩)
  have loop2 : ∀ (k a : Nat), a + k = 8 → ∀ (h : ev_H) (p' : Nat → Int32) (able barred : Int32), rd_A L s c able → rd_S b t h0 h lk fr tk (sy_up m c (ev_i c)) (sy_up o c barred) p' → rd_P p' → (∀ j, 9 * (c + 1) ≤ j → p' j = p j) → rd_ok L s c (p' (9 * c + 8)) → (∀ a', a' < a → sy_bt barred a' = true → rd_ok L s c (p' (9 * c + a'))) → G 123 [(2, b, 0), sy_I (ev_i c), sy_I able, sy_I barred, sy_I (ev_i a)] [] E h := by
    intro k
    induction k with
    | zero =>
      intro a hak h p' able barred hA hS' hP' hfr h8 hb8
      have done : G 173 [(2, b, 0), sy_I (ev_i c), sy_I able, sy_I barred, sy_I (ev_i a)] [] E h := fin h p' able barred _ hS' hP' hfr h8 (fun a' ha' => hb8 a' (by omega))
      refine sy_iload hG a91_123 rfl (sy_iload hG a91_124 rfl (sy_bin2 hG a91_126 (sy_ifc hG a91_127 (fun _ => done) (fun _ => sy_iload hG a91_130 rfl (sy_push (y := 8) hG a91_132 rfl (sy_icmp hG a91_134 (fun _ => done) (fun hn => ?_)))))))
      exact absurd ((sy_le (x := 8) (y := a) (by omega) (by omega)).mpr (by omega)) hn
    | succ k ih =>
      intro a hak h p' able barred hA hS' hP' hfr h8 hb8
      have next : ∀ (h : ev_H) (p' : Nat → Int32), rd_S b t h0 h lk fr tk (sy_up m c (ev_i c)) (sy_up o c barred) p' → rd_P p' → (∀ j, 9 * (c + 1) ≤ j → p' j = p j) → rd_ok L s c (p' (9 * c + 8)) → (∀ a', a' < a + 1 → sy_bt barred a' = true → rd_ok L s c (p' (9 * c + a'))) → G 167 [(2, b, 0), sy_I (ev_i c), sy_I able, sy_I barred, sy_I (ev_i a)] [] E h := by
        intro h p' hS' hP' hfr h8 hb8
        refine sy_iinc (y := 1) hG a91_167 rfl (x := ev_i a) rfl rfl rfl (sy_goto hG a91_170 ?_)
        rw [show ev_i a + 1 = ev_i (a + 1) from sy_add a 1]
        exact ih (a + 1) (by omega) h p' able barred hA hS' hP' hfr h8 hb8
      refine sy_iload hG a91_123 rfl (sy_iload hG a91_124 rfl (sy_bin2 hG a91_126 (sy_ifc hG a91_127 (fun hz => ?_) (fun _ => sy_iload hG a91_130 rfl (sy_push (y := 8) hG a91_132 rfl (sy_icmp hG a91_134 (fun hz => ?_) (fun _ => ?_)))))))
      · refine fin h p' able barred _ hS' hP' hfr h8 (fun a' ha' hbt => ?_)
        by_cases haa : a' < a
        · exact hb8 a' haa hbt
        · rw [sy_ushr_0 (by omega) hz (show a ≤ a' by omega)] at hbt
          cases hbt
      · exact absurd ((sy_le (x := 8) (y := a) (by omega) (by omega)).mp hz) (by omega)
      · refine sy_iload hG a91_137 rfl (sy_iload hG a91_138 rfl (sy_stat (qs := [sy_I (ev_i a), sy_I barred]) (r := []) hG a91_140 rfl rfl rfl (rd_isIn hen (i := a) (by omega)) (by omega) (fun v E' h' hp => ?_)))
        obtain ⟨rfl, hE', hh'⟩ := hp
        refine ⟨by show (0 : Nat) ≠ 12; decide, ?_⟩
        rw [sy_bhI, hE', hh']
        cases hbt : sy_bt barred a
        · refine sy_ifc hG a91_143 (fun _ => next h p' hS' hP' hfr h8 (fun a' ha' hb' => ?_)) (fun hn => absurd rfl hn)
          by_cases haa : a' = a
          · subst haa
            rw [hbt] at hb'
            cases hb'
          · exact hb8 a' (by omega) hb'
        · refine sy_ifc hG a91_143 (fun hn => absurd (show (1 : Int32) = 0 from hn) (by decide)) (fun _ => ?_)
          have hT' := hT.of hS'
          obtain ⟨-, -, -, -, -, ⟨lt, k1, k2, k3, k4, k5, k6, k7⟩, -, -, h9, -, -⟩ := hT'
          have g1 := hS'.2.1
          refine sy_aload hG a91_146 rfl (sy_iload hG a91_147 rfl (sy_iload hG a91_148 rfl (sy_iload hG a91_150 rfl (sy_aload hG a91_151 rfl (sy_getf hG a91_152 (by omega) g1 rfl (Or.inr rfl) (sy_getf hG a91_155 (by omega) k1 k4 (Or.inr rfl) (sy_iload hG a91_158 rfl (sy_ald hG a91_160 (by omega) h9 (by omega) (i := a) (by omega) rfl (sy_push (y := -1) hG a91_161 sy_m1 (sy_bin2 hG a91_162 (sy_bin2 hG a91_163 ?_)))))))))))
          refine sy_virt (qs := [sy_I (eb_and able (eb_xor (nb a) (-1))), sy_I (ev_i a), sy_I (ev_i c)]) (r := []) hG a91_164 rfl rfl (by omega) g1 rfl (rd_choose hen hS' (by omega) (by omega) (by omega)) hd' (fun v E' h' hp => ?_)
          obtain ⟨rfl, hE', q, hS2, hq⟩ := hp
          refine ⟨by show (9 : Nat) ≠ 12; decide, ?_⟩
          rw [sy_bh9, hE']
          have hqo : rd_ok L s c q := (hA.and _).ok hq
          refine next h' _ hS2 (hP'.up hqo.q8) (fun j hj => ?_) ?_ (fun a' ha' hb' => ?_)
          · rw [sy_up_n (by omega)]; exact hfr j hj
          · rw [sy_up_n (by omega)]; exact h8
          · by_cases haa : a' = a
            · subst haa
              rw [sy_up_e]
              exact hqo
            · rw [sy_up_n (by omega)]
              exact hb8 a' (by omega) hb'
  have part2 : ∀ (h : ev_H) (able barred sg : Int32), rd_A L s c able → rd_S b t h0 h lk fr tk (sy_up m c (ev_i c)) o p → G 105 [(2, b, 0), sy_I (ev_i c), sy_I able, sy_I barred, sy_I sg] [] E h := by
    intro h able barred sg hA hS'
    refine sy_aload hG a91_105 rfl (sy_getf hG a91_106 (by omega) hS'.2.1 rfl (Or.inr rfl) (sy_iload hG a91_109 rfl (sy_iload hG a91_110 rfl (sy_iast hG a91_111 (by omega) hS'.2.2.2.1 (by omega) (i := c) (by omega) rfl ?_))))
    have hS2 := hS'.o' (by omega) (sy_up o c barred)
    refine sy_aload hG a91_112 rfl (sy_iload hG a91_113 rfl (sy_push (y := ev_i 8) hG a91_114 rfl (sy_iload hG a91_116 rfl (sy_virt (qs := [sy_I able, sy_I (ev_i 8), sy_I (ev_i c)]) (r := []) hG a91_117 rfl rfl (by omega) hS2.2.1 rfl (rd_choose hen hS2 (by omega) (by omega) (Nat.le_refl 8)) hd' (fun v E' h' hp => ?_)))))
    obtain ⟨rfl, hE', q, hS3, hq⟩ := hp
    refine ⟨by show (9 : Nat) ≠ 12; decide, ?_⟩
    rw [sy_bh9, hE']
    have hqo : rd_ok L s c q := hA.ok hq
    exact sy_push (y := ev_i 0) hG a91_120 rfl (sy_istore hG a91_121 rfl (Nat.le_of_ble_eq_true rfl) rfl (loop2 8 0 rfl h' _ able barred hA hS3 (hP.up hqo.q8) (fun j hj => sy_up_n (by omega)) (by rw [sy_up_e]; exact hqo) (fun a' ha' => absurd ha' (Nat.not_lt_zero _))))
  have loop1 : ∀ (k i : Nat), i + k = n → ∀ (h : ev_H) (able barred : Int32), rd_A L s c able → rd_S b t h0 h lk fr tk (sy_up m c (ev_i c)) o p → G 40 [(2, b, 0), sy_I (ev_i c), sy_I able, sy_I barred, sy_I (ev_i i)] [] E h := by
    intro k
    induction k with
    | zero =>
      intro i hik h able barred hA hS'
      have hT' := hT.of hS'
      obtain ⟨-, -, -, -, -, ⟨lt, k1, k2, k3, k4, k5, k6, k7⟩, -⟩ := hT'
      refine sy_iload hG a91_40 rfl (sy_aload hG a91_42 rfl (sy_getf hG a91_43 (by omega) hS'.2.1 rfl (Or.inr rfl) (sy_getf hG a91_46 (by omega) k1 k3 (Or.inl rfl) (sy_icmp hG a91_49 (fun _ => part2 h able barred _ hA hS') (fun hn => ?_)))))
      exact absurd ((sy_le (x := n) (y := i) (by omega) (by omega)).mpr (by omega)) hn
    | succ k ih =>
      intro i hik h able barred hA hS'
      have next : ∀ (h : ev_H) (able barred : Int32), rd_A L s c able → rd_S b t h0 h lk fr tk (sy_up m c (ev_i c)) o p → G 99 [(2, b, 0), sy_I (ev_i c), sy_I able, sy_I barred, sy_I (ev_i i)] [] E h := by
        intro h able barred hA hS'
        refine sy_iinc (y := 1) hG a91_99 rfl (x := ev_i i) rfl rfl rfl (sy_goto hG a91_102 ?_)
        rw [show ev_i i + 1 = ev_i (i + 1) from sy_add i 1]
        exact ih (i + 1) (by omega) h able barred hA hS'
      have hT' := hT.of hS'
      have hT2 := hT'
      obtain ⟨-, -, -, -, -, ⟨lt, k1, k2, k3, k4, k5, k6, k7⟩, -, -, -, h10, -⟩ := hT'
      have g1 := hS'.2.1
      refine sy_iload hG a91_40 rfl (sy_aload hG a91_42 rfl (sy_getf hG a91_43 (by omega) g1 rfl (Or.inr rfl) (sy_getf hG a91_46 (by omega) k1 k3 (Or.inl rfl) (sy_icmp hG a91_49 (fun hz => absurd ((sy_le (x := n) (y := i) (by omega) (by omega)).mp hz) (by omega)) (fun _ => ?_)))))
      refine sy_aload hG a91_52 rfl (sy_getf hG a91_53 (by omega) g1 rfl (Or.inr rfl) (sy_iload hG a91_56 rfl (sy_iload hG a91_58 rfl (sy_aload hG a91_59 rfl (sy_getf hG a91_60 (by omega) g1 rfl (Or.inl rfl) (sy_virt (qs := [sy_I lk, sy_I (ev_i c), sy_I (ev_i i)]) (r := []) hG a91_63 rfl rfl (by omega) k1 rfl (rd_fits hen hT2 (by omega) (by omega)) (by omega) (fun v E' h' hp => ?_)))))))
      obtain ⟨hE', hh', hv⟩ := hp
      rw [hE', hh']
      rcases hv with rfl | ⟨rfl, q, hq6, hLq, hcq⟩
      · refine ⟨by show (0 : Nat) ≠ 12; decide, ?_⟩
        rw [sy_bhI]
        exact sy_ifc hG a91_66 (fun _ => next h able barred hA hS') (fun hn => absurd rfl hn)
      · refine ⟨by show (0 : Nat) ≠ 12; decide, ?_⟩
        rw [sy_bhI]
        refine sy_ifc hG a91_66 (fun hn => absurd (show (1 : Int32) = 0 from hn) (by decide)) (fun _ => ?_)
        refine sy_aload hG a91_69 rfl (sy_iload hG a91_70 rfl (sy_iload hG a91_72 rfl (sy_virt (qs := [sy_I (ev_i c), sy_I (ev_i i)]) (r := []) hG a91_73 rfl rfl (by omega) g1 rfl (rd_goesOn hen hT hS' hM1 (by omega) (by omega) hLq (by omega)) hd' (fun v E' h' hp => ?_))))
        obtain ⟨hE', hS2, hv⟩ := hp
        rw [hE']
        rcases hv with rfl | rfl
        · refine ⟨by show (0 : Nat) ≠ 12; decide, ?_⟩
          rw [sy_bhI]
          exact sy_ifc hG a91_76 (fun _ => next h' able barred hA hS2) (fun hn => absurd rfl hn)
        · refine ⟨by show (0 : Nat) ≠ 12; decide, ?_⟩
          rw [sy_bhI]
          have hT3 := hT.of hS2
          obtain ⟨-, -, -, -, -, ⟨lt, k1, k2, k3, k4, k5, k6, k7⟩, -, -, -, h10, -⟩ := hT3
          have g1 := hS2.2.1
          refine sy_ifc hG a91_76 (fun hn => absurd (show (1 : Int32) = 0 from hn) (by decide)) (fun _ => ?_)
          refine sy_iload hG a91_79 rfl (sy_push (y := 1) hG a91_80 rfl (sy_iload hG a91_81 rfl (sy_bin2 hG a91_83 (sy_bin2 hG a91_84 (sy_istore hG a91_85 rfl (Nat.le_of_ble_eq_true rfl) rfl (sy_iload (x := barred) hG a91_86 rfl (sy_aload hG a91_87 rfl (sy_getf hG a91_88 (by omega) g1 rfl (Or.inr rfl) (sy_getf hG a91_91 (by omega) k1 k5 (Or.inr rfl) (sy_iload (x := ev_i i) hG a91_94 rfl (sy_ald hG a91_96 (by omega) h10 (by omega) (i := i) (by omega) rfl (sy_bin2 hG a91_97 (sy_istore hG a91_98 rfl (Nat.le_of_ble_eq_true rfl) rfl ?_)))))))))))))
          exact next h' (eb_or able (eb_shl 1 (ev_i i))) (eb_or barred (na i)) (hA.or (by omega) hLq hq6 hcq) hS2
  show G 0 [(2, b, 0), sy_I (ev_i c), (9, 0, 0), (9, 0, 0), (9, 0, 0)] [] E hh
  refine sy_aload hG a91_0 rfl (sy_getf hG a91_1 (by omega) hS.2.1 rfl (Or.inl rfl) (sy_iload hG a91_4 rfl (sy_stat (qs := [sy_I (ev_i c), sy_I lk]) (r := []) hG a91_5 rfl rfl rfl (rd_isIn hen (i := c) (by omega)) (by omega) (fun v E' h' hp => ?_))))
  obtain ⟨rfl, hE', hh'⟩ := hp
  refine ⟨by show (0 : Nat) ≠ 12; decide, ?_⟩
  rw [sy_bhI, hE', hh']
  have g1 := hS.2.1
  have g2 := hS.2.2.1
  cases hbt : sy_bt lk c
  · refine sy_ifc hG a91_8 (fun hn => absurd rfl hn) (fun _ => ?_)
    refine sy_aload hG a91_11 rfl (sy_getf hG a91_12 (by omega) g1 rfl (Or.inr rfl) (sy_iload hG a91_15 rfl (sy_aload hG a91_16 rfl (sy_getf hG a91_17 (by omega) g1 rfl (Or.inr rfl) (sy_iload hG a91_20 rfl (sy_push (y := ev_i 1) hG a91_21 rfl (sy_bin2 hG a91_22 (sy_ald hG a91_23 (by omega) g2 (by omega) (i := c + 1) (by omega) (sy_add c 1) (sy_iast hG a91_24 (by omega) g2 (by omega) (i := c) (by omega) rfl ?_)))))))))
    obtain ⟨d, hd, hmd⟩ := hM (c + 1) (by omega)
    exact sy_vret hG a91_25 (hF _ _ _ ⟨rfl, rfl, _, _, _, hS.m' (by omega) _, hM.up hd hmd, hP, by rw [sy_up_n (by omega)]; exact hms, hJ.skip hc hms⟩)
  · refine sy_ifc hG a91_8 (fun _ => ?_) (fun hn => absurd (show ¬ (1 : Int32) = 0 by decide) hn)
    refine sy_aload hG a91_26 rfl (sy_getf hG a91_27 (by omega) g1 rfl (Or.inr rfl) (sy_iload hG a91_30 rfl (sy_iload hG a91_31 rfl (sy_iast hG a91_32 (by omega) g2 (by omega) (i := c) (by omega) rfl ?_))))
    exact sy_push (y := 0) hG a91_33 rfl (sy_istore hG a91_34 rfl (Nat.le_of_ble_eq_true rfl) rfl (sy_push (y := 0) hG a91_35 rfl (sy_istore hG a91_36 rfl (Nat.le_of_ble_eq_true rfl) rfl (sy_push (y := ev_i 0) hG a91_37 rfl (sy_istore hG a91_38 rfl (Nat.le_of_ble_eq_true rfl) rfl (loop1 n 0 (Nat.zero_add n) _ 0 0 rd_A.zero (hS.m' (by omega) _)))))))
