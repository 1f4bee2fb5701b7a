/-! NAMES: a word that was known is found -/
theorem sy_ui {n : Nat} (h : n < 4294967296) : ev_u (ev_i n) = n := by
  show (UInt32.ofNat n).toNat = n
  exact UInt32.toNat_ofNat_of_lt' h
theorem sy_set_self {al : List ev_V} {i : Nat} {v : ev_V} (h : al[i]? = some v) : al.set i v = al := by
  apply List.ext_getElem?
  intro j
  rw [List.getElem?_set]
  by_cases hij : i = j
  · subst hij
    rw [if_pos rfl, if_pos (List.getElem?_eq_some_iff.mp h).1, h]
  · rw [if_neg hij]
section SymL
variable {call : e2_Call} {F : e2_F} {X : List e2_X} {G : sy_P} {al al' st r : List ev_V} {E : e2_E} {h : ev_H} {pc q t : Nat}
theorem sy_getfL (hG : sy_St call F X G) {ci k a b u c : Nat} {l : List ev_V} (ha : sy_at X pc (o2_getf ci k) q) (h133 : a < 133) (hc : ev_hg h a = (ci, l)) (hv : l[k]? = some (4, u, c)) (hg : G q al ((4, u, c) :: r) E h) : G pc al ((2, a, b) :: r) E h := by
  refine sy_go hG ha ?_
  unfold o2_getf
  rw [sy_1c, sy_cell h133 hc, sy_if_t (Nat.beq_refl _), sy_get hv]
  exact sy_K_i hg
theorem sy_lload (hG : sy_St call F X G) {i u b : Nat} (ha : sy_at X pc (o2_lload i) q) (hx : al[i]? = some (4, u, b)) (hg : G q al ((4, u, b) :: st) E h) : G pc al st E h := by
  refine sy_go hG ha ?_
  unfold o2_lload
  rw [sy_get hx]
  show e2_setK al i (4, u, b) (fun al' => sy_K (G q al' ((4, u, b) :: st) E h)) = true
  rw [sy_set (List.getElem?_eq_some_iff.mp hx).1, sy_set_self hx]
  exact sy_K_i hg
theorem sy_lald (hG : sy_St call F X G) {a b n i : Nat} {f : Nat → Int64} {x : Int32} (ha : sy_at X pc o2_lald q) (h133 : a < 133) (hc : ev_hg h a = (59, sy_RL n f)) (hn : n ≤ 65536) (hi : i < n) (hx : x = ev_i i) (hg : G q al ((4, (f i).toUInt64.toNat, 0) :: r) E h) : G pc al (sy_I x :: (2, a, b) :: r) E h := by
  refine sy_go hG ha ?_
  unfold o2_lald
  rw [sy_2c, sy_cell h133 hc, sy_el_t (show Nat.beq 59 59 = true from rfl), sy_ix (by omega) hx, sy_if_t (Nat.beq_refl _), sy_get (sy_RL_get hi)]
  exact sy_K_i hg
theorem sy_alen9 (hG : sy_St call F X G) {a b n : Nat} {f : Nat → Int64} (ha : sy_at X pc o2_alen q) (h133 : a < 133) (hc : ev_hg h a = (59, sy_RL n f)) (hn : n < 65536) (hg : G q al (sy_I (ev_i n) :: r) E h) : G pc al ((2, a, b) :: r) E h := by
  refine sy_go hG ha ?_
  unfold o2_alen
  rw [sy_1c, sy_cell h133 hc, sy_el_t (show Nat.beq 59 59 = true from rfl), ev_fN_eq, sy_RL_len, sy_if_t (sy_blt hn)]
  rw [sy_I, sy_ui (by omega)] at hg
  exact sy_K_i hg
theorem sy_lcmp (hG : sy_St call F X G) {u v b c : Nat} (ha : sy_at X pc o2_lcmp q) (hu : u < 18446744073709551616) (hv : v < 18446744073709551616) (h1 : u = v → G q al (sy_I 0 :: r) E h) (h2 : u ≠ v → G q al (sy_I (-1) :: r) E h ∧ G q al (sy_I 1 :: r) E h) : G pc al ((4, v, c) :: (4, u, b) :: r) E h := by
  refine sy_go hG ha ?_
  unfold o2_lcmp
  rw [sy_2c]
  have e1 : ((0, 4294967295, 0) : ev_V) = sy_I (-1) := by rw [sy_I, ← sy_m1]
  show e2_el (Nat.beq 4 6 && (Nat.beq 4 4 && Nat.blt v 18446744073709551616)) (sy_K (G q al ((14, u, v) :: r) E h)) (e2_el (Nat.beq 4 4 && (Nat.beq 4 4 && (Nat.blt u 18446744073709551616 && Nat.blt v 18446744073709551616))) (e2_el (Nat.beq u v) (sy_K (G q al (sy_I 0 :: r) E h)) (e2_if (sy_K (G q al ((0, 4294967295, 0) :: r) E h)) (sy_K (G q al (sy_I 1 :: r) E h)))) (sy_K (G q al ((11, 2147483647, 2147483649) :: r) E h))) = true
  rw [e1]
  rw [sy_el_f (show (Nat.beq 4 6 && (Nat.beq 4 4 && Nat.blt v 18446744073709551616)) = false from rfl), sy_blt hu, sy_blt hv, sy_el_t (show (Nat.beq 4 4 && (Nat.beq 4 4 && (true && true))) = true from rfl)]
  by_cases huv : u = v
  · rw [sy_el_t (by rw [huv]; exact Nat.beq_refl _)]
    exact sy_K_i (h1 huv)
  · rw [sy_el_f (Bool.eq_false_iff.mpr fun z => huv (Nat.eq_of_beq_eq_true z)), sy_if_t (sy_K_i (h2 huv).1)]
    exact sy_K_i (h2 huv).2
end SymL
theorem nm_lt (x : Int64) : x.toUInt64.toNat < 18446744073709551616 := UInt64.toNat_lt _
def nm_hit (N : Nat → Int64) (w i : Nat) : Prop := (N i).toUInt64.toNat = w
theorem nm_index (hen : en_ok) {l : Launch} {a b c n w : Nat} {N : Nat → Int64} {E : e2_E} {h : ev_H} (h133 : a < 133) (hc : ev_hg h a = (59, sy_RL n N)) (hn : n ≤ 8) (hc8 : c ≤ 8) (hw : w < 18446744073709551616) :
    sy_C l 1 48 [(4, w, 0), (2, a, b), sy_I (ev_i c)] E h (fun v E' h' => E' = E ∧ h' = h ∧ ((∃ i, i < c ∧ i < n ∧ nm_hit N w i ∧ v = sy_I (ev_i i)) ∨ ((∀ i, i < c → i < n → ¬ nm_hit N w i) ∧ v = sy_I (-1)))) := by
  refine sy_con (D := 0) (C := evd_48) (X := e2x_48) [] hen ei_48 ex2_48 (Nat.le_of_ble_eq_true rfl) fun d' F G hd' hF hG => ?_
  have none : ∀ x : ev_V, (∀ i, i < c → i < n → ¬ nm_hit N w i) → G 34 [(4, w, 0), (9, 0, 0), (2, a, b), sy_I (ev_i c), x] [] E h := fun x hx => sy_push (y := -1) hG a48_34 sy_m1 (sy_iret hG a48_35 (Or.inl rfl) (hF _ _ _ ⟨rfl, rfl, Or.inr ⟨hx, rfl⟩⟩))
  have loop : ∀ k i, i + k = 8 → (∀ j, j < i → j < c → j < n → ¬ nm_hit N w j) → G 3 [(4, w, 0), (9, 0, 0), (2, a, b), sy_I (ev_i c), sy_I (ev_i i)] [] E h := by
    intro k
    induction k with
    | zero =>
      intro i hik hi
      refine sy_iload hG a48_3 rfl (sy_iload hG a48_5 rfl (sy_icmp hG a48_6 (fun _ => none _ fun j h1 h2 => hi j (by omega) h1 h2) (fun z => absurd ((sy_le (x := c) (y := i) (by omega) (by omega)).mpr (by omega)) z)))
    | succ k ih =>
      intro i hik hi
      refine sy_iload hG a48_3 rfl (sy_iload hG a48_5 rfl (sy_icmp hG a48_6 (fun z => ?_) (fun z => ?_)))
      · have z : ev_i c ≤ ev_i i := z
        rw [sy_le (by omega) (by omega)] at z
        exact none _ fun j h1 h2 => hi j (by omega) h1 h2
      have z : ¬ ev_i c ≤ ev_i i := z
      rw [sy_le (by omega) (by omega)] at z
      refine sy_iload hG a48_9 rfl (sy_aload hG a48_11 rfl (sy_alen9 hG a48_12 h133 hc (by omega) (sy_icmp hG a48_13 (fun z2 => ?_) (fun z2 => ?_))))
      · have z2 : ev_i n ≤ ev_i i := z2
        rw [sy_le (by omega) (by omega)] at z2
        exact none _ fun j h1 h2 => hi j (by omega) h1 h2
      have z2 : ¬ ev_i n ≤ ev_i i := z2
      rw [sy_le (by omega) (by omega)] at z2
      have next : ¬ nm_hit N w i → G 28 [(4, w, 0), (9, 0, 0), (2, a, b), sy_I (ev_i c), sy_I (ev_i i)] [] E h := fun hn => by
        refine sy_iinc (y := 1) hG a48_28 rfl (x := ev_i i) rfl rfl rfl (sy_goto hG a48_31 ?_)
        rw [show ev_i i + 1 = ev_i (i + 1) from sy_add i 1]
        refine ih (i + 1) (by omega) fun j h1 h2 h3 => ?_
        by_cases hji : j = i
        · rw [hji]; exact hn
        · exact hi j (by omega) h2 h3
      refine sy_aload hG a48_16 rfl (sy_iload hG a48_17 rfl (sy_lald hG a48_19 h133 hc (by omega) (i := i) (by omega) rfl (sy_lload hG a48_20 rfl (sy_lcmp hG a48_21 (nm_lt _) hw (fun hu => ?_) (fun hu => ⟨?_, ?_⟩)))))
      · exact sy_ifc hG a48_22 (fun z => absurd rfl z) (fun _ => sy_iload hG a48_25 rfl (sy_iret hG a48_27 (Or.inl rfl) (hF _ _ _ ⟨rfl, rfl, Or.inl ⟨i, by omega, by omega, hu, rfl⟩⟩)))
      · exact sy_ifc hG a48_22 (fun _ => next hu) (fun z => absurd (show ¬ ((-1 : Int32) = 0) by decide) z)
      · exact sy_ifc hG a48_22 (fun _ => next hu) (fun z => absurd (show ¬ ((1 : Int32) = 0) by decide) z)
  show G 0 [(4, w, 0), (9, 0, 0), (2, a, b), sy_I (ev_i c), (9, 0, 0)] [] E h
  exact sy_push (y := ev_i 0) hG a48_0 rfl (sy_istore hG a48_1 rfl (Nat.le_of_ble_eq_true rfl) rfl (loop 8 0 rfl fun j hj => absurd hj (Nat.not_lt_zero _)))
/-- the parser behind a fault -/
noncomputable def nm_h (h : ev_H) (lp : List ev_V) (x y : Int32) : ev_H := ev_hs (ev_hs h 33 (3, lp.set 6 (sy_I x))) 33 (3, (lp.set 6 (sy_I x)).set 7 (sy_I y))
theorem nm_h_33 {h : ev_H} {lp : List ev_V} {x y : Int32} : ev_hg (nm_h h lp x y) 33 = (3, (lp.set 6 (sy_I x)).set 7 (sy_I y)) := rd_e (by omega)
theorem nm_h_k {h : ev_H} {lp : List ev_V} {x y : Int32} {k : Nat} (hk : k < 133) (hn : k ≠ 33) : ev_hg (nm_h h lp x y) k = ev_hg h k := rd_g (by omega) hk hn (rd_g (by omega) hk hn rfl)
theorem nm_refuseAt (hen : en_ok) {l : Launch} {b : Nat} {x y : Int32} {lp : List ev_V} {E : e2_E} {h : ev_H} (hp : ev_hg h 33 = (3, lp)) (h7 : 7 < lp.length) :
    sy_C l 1 44 [(2, 33, b), sy_I x, sy_I y] E h (fun v E' h' => v = sy_I 0 ∧ E' = E ∧ h' = nm_h h lp x y) := by
  refine sy_con (D := 0) (C := evd_44) (X := e2x_44) [] hen ei_44 ex2_44 (Nat.le_of_ble_eq_true rfl) fun d' F G hd' hF hG => ?_
  show G 0 [(2, 33, b), sy_I x, sy_I y] [] E h
  refine sy_aload hG a44_0 rfl (sy_iload hG a44_1 rfl (sy_putf hG a44_2 (by omega) hp (by omega) (Or.inl rfl) (sy_aload hG a44_5 rfl (sy_iload hG a44_6 rfl (sy_putf hG a44_7 (by omega) (rd_e (by omega)) (by rw [List.length_set]; exact h7) (Or.inl rfl) (sy_push (y := 0) hG a44_10 rfl (sy_iret hG a44_11 (Or.inr ⟨rfl, Or.inl rfl⟩) (hF _ _ _ ⟨rfl, rfl, rfl⟩))))))))
/-- the parser and its tape, as a name is looked for -/
def nm_T (h : ev_H) (lp lt : List ev_V) (kd pl : Int32) (w : Nat) : Prop :=
  ev_hg h 33 = (3, lp) ∧ (∃ b, lp[0]? = some (2, 34, b)) ∧ 7 < lp.length ∧ ev_hg h 34 = (7, lt) ∧ lt[3]? = some (sy_I kd) ∧ lt[4]? = some (sy_I pl) ∧ lt[6]? = some (4, w, 0)
theorem nm_refuse (hen : en_ok) {l : Launch} {b w : Nat} {x kd pl : Int32} {lp lt : List ev_V} {E : e2_E} {h : ev_H} (hT : nm_T h lp lt kd pl w) :
    sy_C l 2 43 [(2, 33, b), sy_I x] E h (fun v E' h' => v = sy_I 0 ∧ E' = E ∧ ∃ x y, h' = nm_h h lp x y) := by
  obtain ⟨p1, ⟨b0, p2⟩, p3, p4, p5, p6, p7⟩ := hT
  refine sy_con (D := 1) (C := evd_43) (X := e2x_43) [] hen ei_43 ex2_43 (Nat.le_of_ble_eq_true rfl) fun d' F G hd' hF hG => ?_
  have fin : ∀ y : Int32, G 17 [(2, 33, b), sy_I x] [sy_I y, (2, 33, b)] E h := fun y => by
    refine sy_aload hG a43_17 rfl (sy_getf hG a43_18 (by omega) p1 p2 (Or.inr rfl) (sy_getf hG a43_21 (by omega) p4 p6 (Or.inl rfl) (sy_virt (qs := [sy_I pl, sy_I y]) (r := []) hG a43_24 rfl rfl (by omega) p1 rfl (nm_refuseAt hen p1 p3) hd' (fun v E' h' hp => ?_))))
    obtain ⟨rfl, hE', hh'⟩ := hp
    refine ⟨by show (0 : Nat) ≠ 12; decide, ?_⟩
    rw [sy_bhI, hE', hh']
    exact sy_iret hG a43_27 (Or.inr ⟨rfl, Or.inl rfl⟩) (hF _ _ _ ⟨rfl, rfl, _, _, rfl⟩)
  show G 0 [(2, 33, b), sy_I x] [] E h
  refine sy_aload hG a43_0 rfl (sy_aload hG a43_1 rfl (sy_getf hG a43_2 (by omega) p1 p2 (Or.inr rfl) (sy_getf hG a43_5 (by omega) p4 p5 (Or.inl rfl) (sy_push (y := 1) hG a43_8 rfl (sy_icmp hG a43_9 (fun _ => sy_iload hG a43_16 rfl (fin _)) (fun _ => sy_push (y := 1) hG a43_12 rfl (sy_goto hG a43_13 (fin _))))))))
theorem nm_known (hen : en_ok) {l : Launch} {a b b1 c n w : Nat} {kd pl : Int32} {N : Nat → Int64} {lp lt : List ev_V} {E : e2_E} {h : ev_H} (hT : nm_T h lp lt kd pl w) (h133 : a < 133) (hc : ev_hg h a = (59, sy_RL n N)) (hn : n ≤ 8) (hc8 : c ≤ 8) (hw : w < 18446744073709551616) :
    sy_C l 3 50 [(2, 33, b), (2, a, b1), sy_I (ev_i c)] E h (fun v E' h' => E' = E ∧ ((v = sy_I 0 ∧ ∃ x y, h' = nm_h h lp x y) ∨ (v = sy_I 1 ∧ h' = h ∧ ∃ i, i < c ∧ i < n ∧ nm_hit N w i))) := by
  have hTT := hT
  obtain ⟨p1, ⟨b0, p2⟩, p3, p4, p5, p6, p7⟩ := hTT
  refine sy_con (D := 2) (C := evd_50) (X := e2x_50) [] hen ei_50 ex2_50 (Nat.le_of_ble_eq_true rfl) fun d' F G hd' hF hG => ?_
  show G 0 [(2, 33, b), (2, a, b1), sy_I (ev_i c)] [] E h
  refine sy_aload hG a50_0 rfl (sy_getf hG a50_1 (by omega) p1 p2 (Or.inr rfl) (sy_getf hG a50_4 (by omega) p4 p5 (Or.inl rfl) (sy_push (y := 2) hG a50_7 rfl (sy_icmp hG a50_8 (fun _ => ?_) (fun _ => ?_)))))
  rotate_left
  · refine sy_aload hG a50_11 rfl (sy_push (y := 2) hG a50_12 rfl (sy_virt (qs := [sy_I 2]) (r := []) hG a50_13 rfl rfl (by omega) p1 rfl (nm_refuse hen hT) hd' (fun v E' h' hp => ?_)))
    obtain ⟨rfl, hE', x, y, hh'⟩ := hp
    refine ⟨by show (0 : Nat) ≠ 12; decide, ?_⟩
    rw [sy_bhI, hE', hh']
    exact sy_iret hG a50_16 (Or.inr ⟨rfl, Or.inl rfl⟩) (hF _ _ _ ⟨rfl, Or.inl ⟨rfl, _, _, rfl⟩⟩)
  refine sy_aload hG a50_17 rfl (sy_getf hG a50_18 (by omega) p1 p2 (Or.inr rfl) (sy_getfL hG a50_21 (by omega) p4 p7 (sy_aload hG a50_24 rfl (sy_iload hG a50_25 rfl (sy_stat (qs := [sy_I (ev_i c), (2, a, b1), (4, w, 0)]) (r := []) hG a50_26 rfl rfl rfl (nm_index hen h133 hc hn hc8 hw) (by omega) (fun v E' h' hp => ?_))))))
  obtain ⟨hE', hh', hv⟩ := hp
  subst hE'
  subst hh'
  rcases hv with ⟨i, i1, i2, i3, rfl⟩ | ⟨i1, rfl⟩
  · refine ⟨by show (0 : Nat) ≠ 12; decide, ?_⟩
    rw [sy_bhI]
    refine sy_push (y := -1) hG a50_29 sy_m1 (sy_icmp hG a50_30 (fun _ => ?_) (fun z => absurd (fun z2 : ev_i i = -1 => ?_) z))
    · exact sy_push (y := 1) hG a50_41 rfl (sy_goto hG a50_42 (sy_iret hG a50_46 (Or.inr ⟨rfl, Or.inr rfl⟩) (hF _ _ _ ⟨rfl, Or.inr ⟨rfl, rfl, i, i1, i2, i3⟩⟩)))
    · have := congrArg ev_key z2
      rw [sy_k (by omega), hd_m1] at this
      omega
  · refine ⟨by show (0 : Nat) ≠ 12; decide, ?_⟩
    rw [sy_bhI]
    refine sy_push (y := -1) hG a50_29 sy_m1 (sy_icmp hG a50_30 (fun z => absurd rfl z) (fun _ => ?_))
    refine sy_aload hG a50_33 rfl (sy_push (y := 5) hG a50_34 rfl (sy_virt (qs := [sy_I 5]) (r := []) hG a50_35 rfl rfl (by omega) p1 rfl (nm_refuse hen hT) hd' (fun v E' h' hp => ?_)))
    obtain ⟨rfl, hE', x, y, hh'⟩ := hp
    refine ⟨by show (0 : Nat) ≠ 12; decide, ?_⟩
    rw [sy_bhI, hE', hh']
    exact sy_ifc hG a50_38 (fun _ => sy_push (y := 0) hG a50_45 rfl (sy_iret hG a50_46 (Or.inr ⟨rfl, Or.inl rfl⟩) (hF _ _ _ ⟨rfl, Or.inl ⟨rfl, _, _, rfl⟩⟩))) (fun z => absurd rfl z)
