/-! exchange and keepAct -/
theorem rf_was.up {g : Nat → Int32} (h : rf_was g) {i : Nat} {x : Int32} (hx : i % 26 = 25 → 2147483648 ≤ ev_key x ∧ ev_key x ≤ 2147484647) : rf_was (sy_up g i x) := fun a ha => by
  by_cases hi : 26 * a + 25 = i
  · rw [hi, sy_up_e]
    exact hx (by omega)
  · rw [sy_up_n hi]
    exact h a ha
/-- the elements of all: the last is a seed -/
def rf_all (w : Nat → Int32) : Prop := 2147483648 ≤ ev_key (w 25) ∧ ev_key (w 25) ≤ 2147484647
theorem rf_all.up {w : Nat → Int32} (h : rf_all w) {i : Nat} {x : Int32} (hx : i = 25 → 2147483648 ≤ ev_key x ∧ ev_key x ≤ 2147484647) : rf_all (sy_up w i x) := by
  unfold rf_all
  by_cases hi : 25 = i
  · subst hi; rw [sy_up_e]; exact hx rfl
  · rw [sy_up_n hi]; exact h
/-- what both find: the object, the acts' row, all -/
def rf_K (h0 h : ev_H) (lo : List ev_V) (g w : Nat → Int32) : Prop :=
  ev_hg h 83 = (10, lo) ∧ lo[7]? = some (2, 118, 0) ∧ lo[5]? = some (2, 112, 0) ∧ ev_hg h 118 = (50, sy_R 1066 g) ∧ ev_hg h 112 = (50, sy_R 26 w) ∧ rf_was g ∧ rf_all w ∧ ∀ k, k < 133 → k ≠ 83 → k ≠ 118 → k ≠ 112 → ev_hg h k = ev_hg h0 k
theorem rf_K.g' {h0 h : ev_H} {lo : List ev_V} {g w : Nat → Int32} (hK : rf_K h0 h lo g w) {g' : Nat → Int32} (hg : rf_was g') : rf_K h0 (ev_hs h 118 (50, sy_R 1066 g')) lo g' w := by
  obtain ⟨k1, k2, k3, k4, k5, k6, k7, k8⟩ := hK
  exact ⟨rd_g (by omega) (by omega) (by omega) k1, k2, k3, rd_e (by omega), rd_g (by omega) (by omega) (by omega) k5, hg, k7, fun k hk h1 h2 h3 => rd_g (by omega) hk h2 (k8 k hk h1 h2 h3)⟩
theorem rf_K.w' {h0 h : ev_H} {lo : List ev_V} {g w : Nat → Int32} (hK : rf_K h0 h lo g w) {w' : Nat → Int32} (hw : rf_all w') : rf_K h0 (ev_hs h 112 (50, sy_R 26 w')) lo g w' := by
  obtain ⟨k1, k2, k3, k4, k5, k6, k7, k8⟩ := hK
  exact ⟨rd_g (by omega) (by omega) (by omega) k1, k2, k3, rd_g (by omega) (by omega) (by omega) k4, rd_e (by omega), k6, hw, fun k hk h1 h2 h3 => rd_g (by omega) hk h3 (k8 k hk h1 h2 h3)⟩
theorem rf_K.o' {h0 h : ev_H} {lo : List ev_V} {g w : Nat → Int32} (hK : rf_K h0 h lo g w) {j : Nat} {x : Int32} (hj : j ≠ 7 ∧ j ≠ 5) : rf_K h0 (ev_hs h 83 (10, lo.set j (sy_I x))) (lo.set j (sy_I x)) g w := by
  obtain ⟨k1, k2, k3, k4, k5, k6, k7, k8⟩ := hK
  exact ⟨rd_e (by omega), by rw [List.getElem?_set, if_neg hj.1]; exact k2, by rw [List.getElem?_set, if_neg hj.2]; exact k3, rd_g (by omega) (by omega) (by omega) k4, rd_g (by omega) (by omega) (by omega) k5, k6, k7, fun k hk h1 h2 h3 => rd_g (by omega) hk h1 (k8 k hk h1 h2 h3)⟩
set_option maxHeartbeats 4000000 in
theorem rf_exchange {l : Launch} {b0 a : Nat} {lo : List ev_V} {g w : Nat → Int32} {E : e2_E} {h0 hh : ev_H} (hK : rf_K h0 hh lo g w) (ha : lo[6]? = some (sy_I (ev_i a))) (ha40 : a ≤ 40) :
    ∀ (d' : Nat) (F : e2_F) (G : sy_P), (∀ v E' h', v = (9, 0, 0) ∧ (∃ g' w', rf_K h0 h' lo g' w') → F v E' h' = true) → sy_St (sy_call l d') F hx_242 G → G 0 (e2_al 3 [(2, 83, b0)]) [] E hh := by
  intro d' F G hF hG
  have loop : ∀ (j i : Nat), i + j = 26 → ∀ (h : ev_H) (g w : Nat → Int32) (v2 : ev_V), rf_K h0 h lo g w → G 2 [(2, 83, b0), sy_I (ev_i i), v2] [] E h := by
    intro j
    induction j with
    | zero =>
      intro i hi h g w v2 hK
      exact sy_iload hG a242_2 rfl (sy_push (y := ev_i 26) hG a242_3 rfl (sy_icmp hG a242_5 (fun _ => sy_vret hG a242_56 (hF _ _ _ ⟨rfl, g, w, hK⟩)) (fun z => absurd ((sy_le (x := 26) (y := i) (by omega) (by omega)).mpr (by omega)) z)))
    | succ j ih =>
      intro i hi h g w v2 hK
      obtain ⟨k1, k2, k3, k4, k5, k6, k7, k8⟩ := hK
      have hK : rf_K h0 h lo g w := ⟨k1, k2, k3, k4, k5, k6, k7, k8⟩
      have idx : eb_add (eb_mul (ev_i 26) (ev_i a)) (ev_i i) = ev_i (26 * a + i) := by
        rw [show eb_mul (ev_i 26) (ev_i a) = ev_i (26 * a) from sy_mul 26 a]
        exact sy_add _ _
      refine sy_iload hG a242_2 rfl (sy_push (y := ev_i 26) hG a242_3 rfl (sy_icmp hG a242_5 (fun z => absurd ((sy_le (x := 26) (y := i) (by omega) (by omega)).mp z) (by omega)) (fun _ => ?_)))
      refine sy_aload hG a242_8 rfl (sy_getf hG a242_9 (by omega) k1 k2 (Or.inr rfl) (sy_push (y := ev_i 26) hG a242_12 rfl (sy_aload hG a242_14 rfl (sy_getf hG a242_15 (by omega) k1 ha (Or.inl rfl) (sy_bin2 hG a242_18 (sy_iload hG a242_19 rfl (sy_bin2 hG a242_20 ?_)))))))
      rw [idx]
      refine sy_ald hG a242_21 (by omega) k4 (by omega) (i := 26 * a + i) (by omega) rfl (sy_istore hG a242_22 rfl (Nat.le_of_ble_eq_true rfl) rfl ?_)
      refine sy_aload hG a242_23 rfl (sy_getf hG a242_24 (by omega) k1 k2 (Or.inr rfl) (sy_push (y := ev_i 26) hG a242_27 rfl (sy_aload hG a242_29 rfl (sy_getf hG a242_30 (by omega) k1 ha (Or.inl rfl) (sy_bin2 hG a242_33 (sy_iload (x := ev_i i) hG a242_34 rfl (sy_bin2 hG a242_35 ?_)))))))
      rw [idx]
      refine sy_aload hG a242_36 rfl (sy_getf hG a242_37 (by omega) k1 k3 (Or.inr rfl) (sy_iload (x := ev_i i) hG a242_40 rfl (sy_ald hG a242_41 (by omega) k5 (by omega) (i := i) (by omega) rfl (sy_iast hG a242_42 (by omega) k4 (by omega) (i := 26 * a + i) (by omega) rfl ?_))))
      have hK1 := hK.g' (g' := sy_up g (26 * a + i) (w i)) (k6.up fun hz => by rw [show i = 25 by omega]; exact k7)
      obtain ⟨q1, q2, q3, q4, q5, q6, q7, q8⟩ := hK1
      refine sy_aload hG a242_43 rfl (sy_getf hG a242_44 (by omega) q1 q3 (Or.inr rfl) (sy_iload (x := ev_i i) hG a242_47 rfl (sy_iload (x := g (26 * a + i)) hG a242_48 rfl (sy_iast hG a242_49 (by omega) q5 (by omega) (i := i) (by omega) rfl (sy_iinc (y := 1) hG a242_50 rfl (x := ev_i i) rfl rfl rfl (sy_goto hG a242_53 ?_))))))
      rw [show ev_i i + 1 = ev_i (i + 1) from sy_add i 1]
      refine ih (i + 1) (by omega) _ _ _ _ (rf_K.w' ⟨q1, q2, q3, q4, q5, q6, q7, q8⟩ (k7.up fun hz => ?_))
      rw [hz]
      exact k6 a (by omega)
  show G 0 [(2, 83, b0), (9, 0, 0), (9, 0, 0)] [] E hh
  exact sy_push (y := ev_i 0) hG a242_0 rfl (sy_istore hG a242_1 rfl (Nat.le_of_ble_eq_true rfl) rfl (loop 26 0 rfl hh g w _ hK))
set_option maxHeartbeats 4000000 in
theorem rf_keepAct {l : Launch} {b0 a : Nat} {lo : List ev_V} {g w : Nat → Int32} {E : e2_E} {h0 hh : ev_H} (hK : rf_K h0 hh lo g w) (ha : lo[6]? = some (sy_I (ev_i a))) (ha40 : a ≤ 40) (h34 : 34 < lo.length) :
    ∀ (d' : Nat) (F : e2_F) (G : sy_P), (∀ v E' h', v = (9, 0, 0) ∧ (∃ lo' g' w', rf_K h0 h' lo' g' w' ∧ lo'.length = lo.length ∧ (∃ a', a' ≤ 40 ∧ lo'[6]? = some (sy_I (ev_i a'))) ∧ lo'[34]? = some (sy_I 0) ∧ ∀ j, j ≠ 6 → j ≠ 34 → lo'[j]? = lo[j]?) → F v E' h' = true) → sy_St (sy_call l d') F hx_241 G → G 0 (e2_al 2 [(2, 83, b0)]) [] E hh := by
  intro d' F G hF hG
  -- behind the shift: fewer than 40 acts
  have two : ∀ (lo1 : List ev_V) (a : Nat), a ≤ 39 → lo1[6]? = some (sy_I (ev_i a)) → lo1.length = lo.length → (∀ j, j ≠ 6 → lo1[j]? = lo[j]?) → ∀ (j i : Nat), i + j = 26 → ∀ (h : ev_H) (g w : Nat → Int32), rf_K h0 h lo1 g w → G 51 [(2, 83, b0), sy_I (ev_i i)] [] E h := by
    intro lo1 a ha39 ha1 hl1 ho1 j
    induction j with
    | zero =>
      intro i hi h g w hK
      have hK2 := hK.o' (j := 6) (x := ev_i (a + 1)) ⟨by omega, by omega⟩
      have hK3 := hK2.o' (j := 34) (x := 0) ⟨by omega, by omega⟩
      refine sy_iload hG a241_51 rfl (sy_push (y := ev_i 26) hG a241_52 rfl (sy_icmp hG a241_54 (fun _ => ?_) (fun z => absurd ((sy_le (x := 26) (y := i) (by omega) (by omega)).mpr (by omega)) z)))
      refine sy_aload hG a241_83 rfl (sy_dup hG a241_84 rfl (sy_getf hG a241_85 (by omega) hK.1 ha1 (Or.inl rfl) (sy_push (y := ev_i 1) hG a241_88 rfl (sy_bin2 hG a241_89 ?_))))
      rw [show eb_add (ev_i a) (ev_i 1) = ev_i (a + 1) from sy_add a 1]
      refine sy_putf hG a241_90 (by omega) hK.1 (by omega) (Or.inl rfl) (sy_aload hG a241_93 rfl (sy_push (y := 0) hG a241_94 rfl (sy_putf hG a241_95 (by omega) hK2.1 (by rw [List.length_set]; omega) (Or.inl rfl) (sy_vret hG a241_98 (hF _ _ _ ⟨rfl, _, g, w, hK3, by simp only [List.length_set]; exact hl1, ⟨a + 1, by omega, ?_⟩, ?_, fun j j6 j34 => ?_⟩)))))
      · rw [List.getElem?_set, if_neg (by omega), List.getElem?_set, if_pos rfl, if_pos (by omega)]
      · rw [List.getElem?_set, if_pos rfl, if_pos (by rw [List.length_set]; omega)]
      · rw [List.getElem?_set, if_neg (fun z => j34 z.symm), List.getElem?_set, if_neg (fun z => j6 z.symm)]
        exact ho1 j j6
    | succ j ih =>
      intro i hi h g w hK
      obtain ⟨k1, k2, k3, k4, k5, k6, k7, k8⟩ := hK
      refine sy_iload hG a241_51 rfl (sy_push (y := ev_i 26) hG a241_52 rfl (sy_icmp hG a241_54 (fun z => absurd ((sy_le (x := 26) (y := i) (by omega) (by omega)).mp z) (by omega)) (fun _ => ?_)))
      refine sy_aload hG a241_57 rfl (sy_getf hG a241_58 (by omega) k1 k2 (Or.inr rfl) (sy_push (y := ev_i 26) hG a241_61 rfl (sy_aload hG a241_63 rfl (sy_getf hG a241_64 (by omega) k1 ha1 (Or.inl rfl) (sy_bin2 hG a241_67 (sy_iload hG a241_68 rfl (sy_bin2 hG a241_69 ?_)))))))
      rw [show eb_mul (ev_i 26) (ev_i a) = ev_i (26 * a) from sy_mul 26 a, show eb_add (ev_i (26 * a)) (ev_i i) = ev_i (26 * a + i) from sy_add _ _]
      refine sy_aload hG a241_70 rfl (sy_getf hG a241_71 (by omega) k1 k3 (Or.inr rfl) (sy_iload (x := ev_i i) hG a241_74 rfl (sy_ald hG a241_75 (by omega) k5 (by omega) (i := i) (by omega) rfl (sy_iast hG a241_76 (by omega) k4 (by omega) (i := 26 * a + i) (by omega) rfl (sy_iinc (y := 1) hG a241_77 rfl (x := ev_i i) rfl rfl rfl (sy_goto hG a241_80 ?_))))))
      rw [show ev_i i + 1 = ev_i (i + 1) from sy_add i 1]
      exact ih (i + 1) (by omega) _ _ _ (rf_K.g' ⟨k1, k2, k3, k4, k5, k6, k7, k8⟩ (k6.up fun hz => by rw [show i = 25 by omega]; exact k7))
  have shift : ∀ (j i : Nat), i + j = 1040 → ∀ (h : ev_H) (g w : Nat → Int32), a = 40 → rf_K h0 h lo g w → G 11 [(2, 83, b0), sy_I (ev_i i)] [] E h := by
    intro j
    induction j with
    | zero =>
      intro i hi h g w ha4 hK
      have hK2 := hK.o' (j := 6) (x := ev_i 39) ⟨by omega, by omega⟩
      refine sy_iload hG a241_11 rfl (sy_push (y := ev_i 1040) hG a241_12 rfl (sy_icmp hG a241_15 (fun _ => ?_) (fun z => absurd ((sy_le (x := 1040) (y := i) (by omega) (by omega)).mpr (by omega)) z)))
      refine sy_aload hG a241_39 rfl (sy_dup hG a241_40 rfl (sy_getf hG a241_41 (by omega) hK.1 ha (Or.inl rfl) (sy_push (y := 1) hG a241_44 rfl (sy_bin2 hG a241_45 ?_))))
      rw [ha4, show eb_sub (ev_i 40) 1 = ev_i 39 from sy_dec 39]
      refine sy_putf hG a241_46 (by omega) hK.1 (by omega) (Or.inl rfl) (sy_push (y := ev_i 0) hG a241_49 rfl (sy_istore hG a241_50 rfl (Nat.le_of_ble_eq_true rfl) rfl ?_))
      refine two _ 39 (by omega) (by rw [List.getElem?_set, if_pos rfl, if_pos (by omega)]) (by rw [List.length_set]) (fun j hj => by rw [List.getElem?_set, if_neg (fun z => hj z.symm)]) 26 0 rfl _ g w hK2
    | succ j ih =>
      intro i hi h g w ha4 hK
      obtain ⟨k1, k2, k3, k4, k5, k6, k7, k8⟩ := hK
      refine sy_iload hG a241_11 rfl (sy_push (y := ev_i 1040) hG a241_12 rfl (sy_icmp hG a241_15 (fun z => absurd ((sy_le (x := 1040) (y := i) (by omega) (by omega)).mp z) (by omega)) (fun _ => ?_)))
      refine sy_aload hG a241_18 rfl (sy_getf hG a241_19 (by omega) k1 k2 (Or.inr rfl) (sy_iload hG a241_22 rfl (sy_aload hG a241_23 rfl (sy_getf hG a241_24 (by omega) k1 k2 (Or.inr rfl) (sy_iload hG a241_27 rfl (sy_push (y := ev_i 26) hG a241_28 rfl (sy_bin2 hG a241_30 ?_)))))))
      rw [show eb_add (ev_i i) (ev_i 26) = ev_i (i + 26) from sy_add _ _]
      refine sy_ald hG a241_31 (by omega) k4 (by omega) (i := i + 26) (by omega) rfl (sy_iast hG a241_32 (by omega) k4 (by omega) (i := i) (by omega) rfl (sy_iinc (y := 1) hG a241_33 rfl (x := ev_i i) rfl rfl rfl (sy_goto hG a241_36 ?_)))
      rw [show ev_i i + 1 = ev_i (i + 1) from sy_add i 1]
      refine ih (i + 1) (by omega) _ _ _ ha4 (rf_K.g' ⟨k1, k2, k3, k4, k5, k6, k7, k8⟩ (k6.up fun hz => ?_))
      have := k6 (i / 26 + 1) (by omega)
      rw [show 26 * (i / 26 + 1) + 25 = i + 26 by omega] at this
      exact this
  show G 0 [(2, 83, b0), (9, 0, 0)] [] E hh
  refine sy_aload hG a241_0 rfl (sy_getf hG a241_1 (by omega) hK.1 ha (Or.inl rfl) (sy_push (y := ev_i 40) hG a241_4 rfl (sy_icmp hG a241_6 (fun z => ?_) (fun z => ?_))))
  · have hne : a ≠ 40 := fun h => z (by rw [h])
    exact sy_push (y := ev_i 0) hG a241_49 rfl (sy_istore hG a241_50 rfl (Nat.le_of_ble_eq_true rfl) rfl (two lo a (by omega) ha rfl (fun _ _ => rfl) 26 0 rfl hh g w hK))
  · have he : ev_i a = ev_i 40 := Classical.byContradiction z
    have : a = 40 := by
      have := congrArg ev_key he
      rw [sy_k (by omega), sy_k (by omega)] at this
      omega
    exact sy_push (y := ev_i 0) hG a241_9 rfl (sy_istore hG a241_10 rfl (Nat.le_of_ble_eq_true rfl) rfl (shift 1040 0 rfl hh g w this hK))
