/-! THE READER BY HAND: read, follow -/
theorem sy_dec (k : Nat) : ev_i (k + 1) - 1 = ev_i k := by
  rw [← sy_add k 1]
  exact Int32.toBitVec_inj.mp (by rw [Int32.toBitVec_sub]; exact BitVec.add_sub_cancel (ev_i k).toBitVec (ev_i 1).toBitVec)
theorem sy_decN (k : Nat) : ev_i (k + 1) + -1 = ev_i k := by
  have h : ev_i (k + 1) + -1 = ev_i (k + 1) - 1 := Int32.toBitVec_inj.mp (by rw [Int32.toBitVec_sub]; exact (BitVec.sub_eq_add_neg _ _).symm)
  rw [h, sy_dec]
theorem rd_o1 {b t : Nat} {lk fr tk x : Int32} : (rd_o b t lk fr tk).set 1 (sy_I x) = rd_o b t x fr tk := rfl
theorem rd_o6 {b t : Nat} {lk fr tk x : Int32} : (rd_o b t lk fr tk).set 6 (sy_I x) = rd_o b t lk x tk := rfl
theorem rd_o8 {b t : Nat} {lk fr tk x : Int32} : (rd_o b t lk fr tk).set 8 (sy_I x) = rd_o b t lk fr x := rfl
/-- the cell that comes next, k are left -/
def rd_x (k : Nat) : Int32 := match k with
  | 0 => -1
  | k + 1 => ev_i k
theorem rd_ushr_all {a : Nat} (ha : a < 32) : ¬ ev_ushr (-1) (ev_i a) = 0 := fun z => by
  have h1 := sy_ushr_0 ha z (Nat.le_refl a)
  have h2 : ∀ i, i < 32 → sy_bt (-1) i = true := by decide +kernel
  rw [h2 a ha] at h1
  cases h1
theorem rd_ushr_le {x : Int32} {a c : Nat} (hac : a ≤ c) (hc : c < 32) (h : ev_ushr x (ev_i a) = 0) : ev_ushr x (ev_i c) = 0 := by
  apply sy_0_of
  intro i hi
  rw [sy_bt_ushr c hc]
  exact sy_ushr_0 (by omega) h (by omega)
theorem rd_read (hen : en_ok) {l : Launch} {b t s n : Nat} {h0 hh : ev_H} {lk fr tk row : Int32} {m o p L sh nb na w : Nat → Int32} {E : e2_E} (hT : rd_T b t h0 s n L sh nb na w) (hS : rd_S b t h0 hh lk fr tk m o p) (hM : rd_M m) (hP : rd_P p) (hms : m s = ev_i s) (hs1 : 1 ≤ s) (hmode : fr ≠ 0 ∨ rd_J m o p L s 0) :
    ∀ (d' : Nat) (F : e2_F) (G : sy_P), 3 ≤ d' → (∀ v E' h', (∃ x, v = sy_I x) ∧ E' = E ∧ (∃ m' o' p', rd_S b t h0 h' row 0 tk m' o' p' ∧ rd_M m' ∧ rd_P p' ∧ m' s = ev_i s ∧ rd_J m' o' p' L s 0) → F v E' h' = true) → sy_St (sy_call l d') F e2x_88 G → G 0 (e2_al 4 [(2, b, 0), sy_I row]) [] E hh := by
  have hb := hT.1
  have ht := hT.2.1
  have hs20 := hT.2.2.1
  intro d' F G hd' hF hG
  have fin : ∀ (h : ev_H) (m o p : Nat → Int32) (un x : Int32), rd_S b t h0 h row 0 tk m o p → rd_M m → rd_P p → m s = ev_i s → rd_J m o p L s 0 → G 59 [(2, b, 0), sy_I row, sy_I un, sy_I x] [] E h := by
    intro h m o p un x hS hM hP hms hJ
    obtain ⟨d, hd, hmd⟩ := hM 0 (by omega)
    have hS' := hS
    obtain ⟨-, g1, -, -, -, -, ⟨f6, g6⟩, -⟩ := hS'
    refine sy_aload hG a88_59 rfl (sy_getf hG a88_60 (by omega) g1 rfl (Or.inr rfl) (sy_aload hG a88_63 rfl (sy_push (y := ev_i 0) hG a88_64 rfl (sy_push (y := ev_i 8) hG a88_65 rfl (sy_virt (qs := [sy_I (ev_i 8), sy_I (ev_i 0)]) (r := [(2, b + 7, 0)]) hG a88_67 rfl rfl (by omega) g1 rfl (rd_answerAt hen hS (by omega) (by omega) hd hmd (Nat.le_refl 8)) (by omega) (fun v E' h' hp => ?_))))))
    obtain ⟨rfl, hE', hh'⟩ := hp
    refine ⟨by show (0 : Nat) ≠ 12; decide, ?_⟩
    rw [sy_bhI, hE', hh']
    have hz : 9 * d + (if sy_bt (o d) 8 then 8 else 8) < 189 := by cases sy_bt (o d) 8 <;> simp <;> omega
    generalize 9 * d + (if sy_bt (o d) 8 then 8 else 8) = z at hz
    exact sy_ald hG a88_70 (by omega) g6 (by omega) hz rfl (sy_iret hG a88_71 (Or.inl rfl) (hF _ _ _ ⟨⟨_, rfl⟩, rfl, m, o, p, hS, hM, hP, hms, hJ⟩))
  have loop : ∀ (k : Nat), k ≤ s → ∀ (h : ev_H) (m o p : Nat → Int32) (un : Int32), rd_S b t h0 h row 0 tk m o p → rd_M m → rd_P p → m s = ev_i s → rd_J m o p L s k → (∀ c, c < k → ev_ushr un (ev_i c) = 0 → rd_J m o p L s 0) → G 38 [(2, b, 0), sy_I row, sy_I un, sy_I (rd_x k)] [] E h := by
    intro k
    induction k with
    | zero =>
      intro hk h m o p un hS hM hP hms hJ hu
      refine sy_iload hG a88_38 rfl (sy_ifc hG a88_39 (fun _ => fin h m o p un _ hS hM hP hms hJ) (fun hn => ?_))
      exact absurd (show (-1 : Int32) < 0 by decide) hn
    | succ k ih =>
      intro hk h m o p un hS hM hP hms hJ hu
      have next : ∀ (h : ev_H) (m o p : Nat → Int32), rd_S b t h0 h row 0 tk m o p → rd_M m → rd_P p → m s = ev_i s → rd_J m o p L s k → (∀ c, c < k → ev_ushr un (ev_i c) = 0 → rd_J m o p L s 0) → G 53 [(2, b, 0), sy_I row, sy_I un, sy_I (ev_i k)] [] E h := by
        intro h m o p hS hM hP hms hJ hu
        refine sy_iinc (y := -1) hG a88_53 sy_m1 (x := ev_i k) rfl rfl rfl (sy_goto hG a88_56 ?_)
        rw [show ev_i k + -1 = rd_x k by cases k with | zero => decide | succ k => exact sy_decN k]
        exact ih (by omega) h m o p un hS hM hP hms hJ hu
      refine sy_iload (x := ev_i k) hG a88_38 rfl (sy_ifc hG a88_39 (fun hz => ?_) (fun _ => ?_))
      · have hz : ev_i k < ev_i 0 := hz
        rw [sy_lt (by omega) (by omega)] at hz
        omega
      · refine sy_iload hG a88_42 rfl (sy_iload (x := ev_i k) hG a88_43 rfl (sy_bin2 hG a88_44 (sy_ifc hG a88_45 (fun hz => ?_) (fun hz => ?_))))
        · have hJ0 := hu k (by omega) hz
          exact next h m o p hS hM hP hms (fun c _ hc => hJ0 c (Nat.zero_le _) hc) (fun _ _ _ => hJ0)
        · refine sy_aload hG a88_48 rfl (sy_iload (x := ev_i k) hG a88_49 rfl (sy_virt (qs := [sy_I (ev_i k)]) (r := []) hG a88_50 rfl rfl (by omega) hS.2.1 rfl (rd_settle hen hT hS hM hP hms (by omega) hJ) hd' (fun v E' h' hp => ?_)))
          obtain ⟨rfl, hE', m', o', p', q1, q2, q3, q4, q5⟩ := hp
          refine ⟨by show (9 : Nat) ≠ 12; decide, ?_⟩
          rw [sy_bh9, hE']
          exact next h' m' o' p' q1 q2 q3 q4 q5 (fun c hc hz' => absurd (rd_ushr_le (Nat.le_of_lt hc) (by omega) hz') hz)
  have begin2 : ∀ (un : Int32), (∀ c, c < s → ev_ushr un (ev_i c) = 0 → rd_J m o p L s 0) → G 17 [(2, b, 0), sy_I row, (9, 0, 0), (9, 0, 0)] [sy_I un] E hh := by
    intro un hu
    refine sy_istore hG a88_17 rfl (Nat.le_of_ble_eq_true rfl) rfl (sy_aload hG a88_18 rfl (sy_push (y := 0) hG a88_19 rfl (sy_putf hG a88_20 (by omega) hS.2.1 (Nat.le_of_ble_eq_true rfl) (Or.inr ⟨rfl, Or.inl rfl⟩) ?_)))
    rw [rd_o6]
    have hS1 := hS.b' (by omega) lk 0 tk
    refine sy_aload hG a88_23 rfl (sy_iload hG a88_24 rfl (sy_putf hG a88_25 (by omega) hS1.2.1 (Nat.le_of_ble_eq_true rfl) (Or.inl rfl) ?_))
    rw [rd_o1]
    have hS2 := hS1.b' (by omega) row 0 tk
    have hT' := hT.of hS2
    obtain ⟨-, -, -, -, -, ⟨lt, k1, k2, k3, k4, k5, k6, k7⟩, -⟩ := hT'
    refine sy_aload hG a88_28 rfl (sy_getf hG a88_29 (by omega) hS2.2.1 rfl (Or.inr rfl) (sy_getf hG a88_32 (by omega) k1 k2 (Or.inl rfl) (sy_push (y := 1) hG a88_35 rfl (sy_bin2 hG a88_36 ?_))))
    rw [show eb_sub (ev_i s) 1 = rd_x s by cases s with | zero => omega | succ k => exact sy_dec k]
    refine sy_istore hG a88_37 rfl (Nat.le_of_ble_eq_true rfl) rfl ?_
    exact loop s (Nat.le_refl s) _ m o p un hS2 hM hP hms (fun c h1 h2 => absurd h2 (by omega)) hu
  show G 0 [(2, b, 0), sy_I row, (9, 0, 0), (9, 0, 0)] [] E hh
  refine sy_aload hG a88_0 rfl (sy_getf hG a88_1 (by omega) hS.2.1 rfl (Or.inl rfl) (sy_ifc hG a88_4 (fun hz => ?_) (fun hz => ?_)))
  · have hJ0 : rd_J m o p L s 0 := by
      rcases hmode with hf | hJ0
      · exact absurd hz hf
      · exact hJ0
    exact sy_aload hG a88_11 rfl (sy_getf hG a88_12 (by omega) hS.2.1 rfl (Or.inl rfl) (sy_iload hG a88_15 rfl (sy_bin2 hG a88_16 (begin2 _ (fun _ _ _ => hJ0)))))
  · exact sy_push (y := -1) hG a88_7 sy_m1 (sy_goto hG a88_8 (begin2 _ (fun c hc hz' => absurd hz' (rd_ushr_all (by omega)))))
/-- what follow leaves of cells and signs -/
def rd_W (b : Nat) (h : ev_H) : Prop := ∃ ce si, ev_hg h (b + 10) = (50, sy_R 20 ce) ∧ ev_hg h (b + 11) = (50, sy_R 20 si) ∧ (∀ j, j < 20 → ∃ d, d < 20 ∧ ce j = ev_i d) ∧ (∀ j, j < 20 → ∃ g, g < 8 ∧ si j = ev_i g)
theorem rd_follow (hen : en_ok) {l : Launch} {b t s n k0 : Nat} {h0 hh : ev_H} {lk fr : Int32} {m o p L sh nb na w : Nat → Int32} {E : e2_E} (hT : rd_T b t h0 s n L sh nb na w) (hS : rd_S b t h0 hh lk fr (ev_i k0) m o p) (hW : rd_W b hh) (hM : rd_M m) (hms : m s = ev_i s) (hJ : rd_J m o p L s 0) :
    ∀ (d' : Nat) (F : e2_F) (G : sy_P), 1 ≤ d' → (∀ v E' h', (v = sy_I 0 ∨ v = sy_I 1) ∧ E' = E ∧ (∃ k, k ≤ 20 ∧ rd_S b t h0 h' lk fr (ev_i k) m o p ∧ rd_W b h') → F v E' h' = true) → sy_St (sy_call l d') F e2x_94 G → G 0 (e2_al 5 [(2, b, 0)]) [] E hh := by
  have hb := hT.1
  have ht := hT.2.1
  have hs20 := hT.2.2.1
  intro d' F G hd' hF hG
  have loop : ∀ (k i : Nat), i + k = 20 → ∀ (h : ev_H) (c a j : Nat) (v4 : ev_V), j ≤ 20 → rd_S b t h0 h lk fr (ev_i j) m o p → rd_W b h → c < 21 → (c < s → m c = ev_i c) → a ≤ 8 → G 17 [(2, b, 0), sy_I (ev_i c), sy_I (ev_i a), sy_I (ev_i i), v4] [] E h := by
    intro k
    induction k with
    | zero =>
      intro i hik h c a j v4 hj hS hW hc hmc ha
      refine sy_iload hG a94_17 rfl (sy_push (y := 20) hG a94_18 rfl (sy_icmp hG a94_20 (fun _ => ?_) (fun hn => ?_)))
      · exact sy_push (y := 1) hG a94_104 rfl (sy_iret hG a94_105 (Or.inr ⟨rfl, Or.inr rfl⟩) (hF _ _ _ ⟨Or.inr rfl, rfl, j, hj, hS, hW⟩))
      · exact absurd ((sy_le (x := 20) (y := i) (by omega) (by omega)).mpr (by omega)) hn
    | succ k ih =>
      intro i hik h c a j v4 hj hS hW hc hmc ha
      have done : G 104 [(2, b, 0), sy_I (ev_i c), sy_I (ev_i a), sy_I (ev_i i), v4] [] E h := sy_push (y := 1) hG a94_104 rfl (sy_iret hG a94_105 (Or.inr ⟨rfl, Or.inr rfl⟩) (hF _ _ _ ⟨Or.inr rfl, rfl, j, hj, hS, hW⟩))
      have hT' := hT.of hS
      obtain ⟨-, -, -, -, -, ⟨lt, k1, k2, k3, k4, k5, k6, k7⟩, -⟩ := hT'
      have g1 := hS.2.1
      refine sy_iload hG a94_17 rfl (sy_push (y := 20) hG a94_18 rfl (sy_icmp hG a94_20 (fun _ => done) (fun _ => ?_)))
      refine sy_iload hG a94_23 rfl (sy_aload hG a94_24 rfl (sy_getf hG a94_25 (by omega) g1 rfl (Or.inr rfl) (sy_getf hG a94_28 (by omega) k1 k2 (Or.inl rfl) (sy_icmp hG a94_31 (fun _ => done) (fun hn => ?_)))))
      have hcs : c < s := by
        have hn : ¬ ev_i s ≤ ev_i c := hn
        rw [sy_le (by omega) (by omega)] at hn
        omega
      have hmc := hmc hcs
      refine sy_aload hG a94_34 rfl (sy_getf hG a94_35 (by omega) g1 rfl (Or.inr rfl) (sy_aload hG a94_38 rfl (sy_iload hG a94_39 rfl (sy_iload hG a94_40 rfl (sy_virt (qs := [sy_I (ev_i a), sy_I (ev_i c)]) (r := [(2, b + 6, 0)]) hG a94_41 rfl rfl (by omega) g1 rfl (rd_answerAt hen hS (by omega) hc hc hmc ha) hd' (fun v E' h' hp => ?_))))))
      obtain ⟨rfl, hE', hh'⟩ := hp
      refine ⟨by show (0 : Nat) ≠ 12; decide, ?_⟩
      rw [sy_bhI, hE', hh']
      have hz : 9 * c + (if sy_bt (o c) a then a else 8) < 189 := by cases sy_bt (o c) a <;> simp <;> omega
      have hok : rd_ok L s c (p (9 * c + (if sy_bt (o c) a then a else 8))) := by
        obtain ⟨d, e1, e2, e3, e4⟩ := hJ c (Nat.zero_le _) hcs
        have hdc : d = c := by
          rw [hmc] at e1
          have := congrArg ev_key e1
          rw [sy_k (by omega), sy_k (by omega)] at this
          omega
        subst hdc
        exact (e4 hcs).2 a ha
      generalize 9 * c + (if sy_bt (o c) a then a else 8) = z at hz hok
      refine sy_ald hG a94_44 (by omega) hS.2.2.2.2.1 (by omega) hz rfl (sy_istore hG a94_45 rfl (Nat.le_of_ble_eq_true rfl) rfl (sy_iload (x := p z) hG a94_47 rfl (sy_push (y := -1) hG a94_49 sy_m1 (sy_icmp hG a94_50 (fun hn => ?_) (fun _ => ?_)))))
      rotate_left
      · exact sy_push (y := 0) hG a94_53 rfl (sy_iret hG a94_54 (Or.inr ⟨rfl, Or.inl rfl⟩) (hF _ _ _ ⟨Or.inl rfl, rfl, j, hj, hS, hW⟩))
      rcases hok with hq | ⟨g, q, hg, hpg, hLg, hq6, hcq⟩
      · exact absurd hq hn
      rw [hpg]
      obtain ⟨ce, si, w1, w2, w3, w4⟩ := hW
      refine sy_aload hG a94_55 rfl (sy_getf hG a94_56 (by omega) g1 rfl (Or.inr rfl) (sy_iload hG a94_59 rfl (sy_iload hG a94_60 rfl (sy_iast hG a94_61 (by omega) w1 (by omega) (i := i) (by omega) rfl ?_))))
      have hB1 : rd_B 20 (sy_up ce i (ev_i c)) := fun x hx => by
        by_cases hxi : x = i
        · subst hxi; exact ⟨c, by omega, sy_up_e⟩
        · rw [sy_up_n hxi]; exact w3 x hx
      have hB2 : rd_B 8 (sy_up si i (ev_i g)) := fun x hx => by
        by_cases hxi : x = i
        · subst hxi; exact ⟨g, hg, sy_up_e⟩
        · rw [sy_up_n hxi]; exact w4 x hx
      have hS1 := hS.c' (by omega) hB1
      have v1 : ev_hg (ev_hs h (b + 10) (50, sy_R 20 (sy_up ce i (ev_i c)))) (b + 10) = (50, sy_R 20 (sy_up ce i (ev_i c))) := rd_e (by omega)
      have v2 : ev_hg (ev_hs h (b + 10) (50, sy_R 20 (sy_up ce i (ev_i c)))) (b + 11) = (50, sy_R 20 si) := rd_g (by omega) (by omega) (by omega) w2
      generalize ev_hs h (b + 10) (50, sy_R 20 (sy_up ce i (ev_i c))) = h1 at hS1 v1 v2
      refine sy_aload hG a94_62 rfl (sy_getf hG a94_63 (by omega) hS1.2.1 rfl (Or.inr rfl) (sy_iload hG a94_66 rfl (sy_iload (x := ev_i g) hG a94_67 rfl (sy_iast hG a94_69 (by omega) v2 (by omega) (i := i) (by omega) rfl ?_))))
      have hS2 := hS1.s' (by omega) hB2
      have u1 : ev_hg (ev_hs h1 (b + 11) (50, sy_R 20 (sy_up si i (ev_i g)))) (b + 11) = (50, sy_R 20 (sy_up si i (ev_i g))) := rd_e (by omega)
      have u2 : ev_hg (ev_hs h1 (b + 11) (50, sy_R 20 (sy_up si i (ev_i g)))) (b + 10) = (50, sy_R 20 (sy_up ce i (ev_i c))) := rd_g (by omega) (by omega) (by omega) v1
      generalize ev_hs h1 (b + 11) (50, sy_R 20 (sy_up si i (ev_i g))) = h2 at hS2 u1 u2
      refine sy_aload hG a94_70 rfl (sy_iload hG a94_71 rfl (sy_push (y := ev_i 1) hG a94_72 rfl (sy_bin2 hG a94_73 (sy_putf hG a94_74 (by omega) hS2.2.1 (Nat.le_of_ble_eq_true rfl) (Or.inl rfl) ?_))))
      rw [rd_o8, show eb_add (ev_i i) (ev_i 1) = ev_i (i + 1) from sy_add i 1]
      have hS3 := hS2.b' (by omega) lk fr (ev_i (i + 1))
      have hW3 : rd_W b (ev_hs h2 b (5, rd_o b t lk fr (ev_i (i + 1)))) := by
        refine ⟨_, _, rd_g (by omega) (by omega) (by omega) u2, rd_g (by omega) (by omega) (by omega) u1, fun x hx => ?_, fun x hx => ?_⟩
        · by_cases hxi : x = i
          · subst hxi; exact ⟨c, by omega, sy_up_e⟩
          · rw [sy_up_n hxi]; exact w3 x hx
        · by_cases hxi : x = i
          · subst hxi; exact ⟨g, hg, sy_up_e⟩
          · rw [sy_up_n hxi]; exact w4 x hx
      generalize ev_hs h2 b (5, rd_o b t lk fr (ev_i (i + 1))) = h3 at hS3 hW3
      have hT3 := hT.of hS3
      obtain ⟨-, -, -, -, -, ⟨lt, k1, k2, k3, k4, k5, k6, k7⟩, h7, -⟩ := hT3
      refine sy_iload (x := ev_i g) hG a94_77 rfl (sy_istore hG a94_79 rfl (Nat.le_of_ble_eq_true rfl) rfl (sy_aload hG a94_80 rfl (sy_getf hG a94_81 (by omega) hS3.2.1 rfl (Or.inr rfl) (sy_iload (x := ev_i c) hG a94_84 rfl (sy_aload hG a94_85 rfl (sy_getf hG a94_86 (by omega) hS3.2.1 rfl (Or.inr rfl) (sy_getf hG a94_89 (by omega) k1 k7 (Or.inr rfl) (sy_iload (x := ev_i g) hG a94_92 rfl (sy_ald hG a94_94 (by omega) h7 (by omega) (i := g) hg rfl (sy_bin2 hG a94_95 ?_))))))))))
      rw [hLg, show eb_add (ev_i c) (ev_i q) = ev_i (c + q) from sy_add c q]
      refine sy_ald hG a94_96 (by omega) hS3.2.2.1 (by omega) (i := c + q) (by omega) rfl (sy_istore hG a94_97 rfl (Nat.le_of_ble_eq_true rfl) rfl (sy_iinc (y := 1) hG a94_98 rfl (x := ev_i i) rfl rfl rfl (sy_goto hG a94_101 ?_)))
      rw [show ev_i i + 1 = ev_i (i + 1) from sy_add i 1]
      by_cases hcqs : c + q = s
      · rw [hcqs, hms]
        exact ih (i + 1) (by omega) h3 s g (i + 1) _ (by omega) hS3 hW3 (by omega) (fun z => absurd z (Nat.lt_irrefl _)) (by omega)
      · obtain ⟨d, e1, e2, e3, e4⟩ := hJ (c + q) (Nat.zero_le _) (by omega)
        rw [e1]
        exact ih (i + 1) (by omega) h3 d g (i + 1) _ (by omega) hS3 hW3 (by omega) (fun z => (e4 z).1) (by omega)
  show G 0 [(2, b, 0), (9, 0, 0), (9, 0, 0), (9, 0, 0), (9, 0, 0)] [] E hh
  refine sy_aload hG a94_0 rfl (sy_push (y := ev_i 0) hG a94_1 rfl (sy_putf hG a94_2 (by omega) hS.2.1 (Nat.le_of_ble_eq_true rfl) (Or.inl rfl) ?_))
  rw [rd_o8]
  have hS1 := hS.b' (by omega) lk fr (ev_i 0)
  have hW1 : rd_W b (ev_hs hh b (5, rd_o b t lk fr (ev_i 0))) := by
    obtain ⟨ce, si, w1, w2, w3, w4⟩ := hW
    exact ⟨ce, si, rd_g (by omega) (by omega) (by omega) w1, rd_g (by omega) (by omega) (by omega) w2, w3, w4⟩
  generalize ev_hs hh b (5, rd_o b t lk fr (ev_i 0)) = h1 at hS1 hW1
  have hm0 : ∃ d, d < 21 ∧ m 0 = ev_i d ∧ (d < s → m d = ev_i d) := by
    by_cases hs0 : 0 < s
    · obtain ⟨d, e1, e2, e3, e4⟩ := hJ 0 (Nat.le_refl _) hs0
      exact ⟨d, by omega, e1, fun z => (e4 z).1⟩
    · obtain ⟨d, e1, e2⟩ := hM 0 (by omega)
      exact ⟨d, e1, e2, fun z => by omega⟩
  obtain ⟨d, hd, hmd, hmd2⟩ := hm0
  refine sy_aload hG a94_5 rfl (sy_getf hG a94_6 (by omega) hS1.2.1 rfl (Or.inr rfl) (sy_push (y := ev_i 0) hG a94_9 rfl (sy_ald hG a94_10 (by omega) hS1.2.2.1 (by omega) (i := 0) (by omega) rfl ?_)))
  rw [hmd]
  exact sy_istore hG a94_11 rfl (Nat.le_of_ble_eq_true rfl) rfl (sy_push (y := ev_i 8) hG a94_12 rfl (sy_istore hG a94_14 rfl (Nat.le_of_ble_eq_true rfl) rfl (sy_push (y := ev_i 0) hG a94_15 rfl (sy_istore hG a94_16 rfl (Nat.le_of_ble_eq_true rfl) rfl (loop 20 0 rfl h1 d 8 0 _ (by omega) hS1 hW1 hd hmd2 (Nat.le_refl 8))))))
