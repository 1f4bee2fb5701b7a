/-! LATER, both: the time goes on, and is answered -/
def lw_g (T y : Int) : Prop := 0 ≤ y ∧ y ≤ 1000 ∧ T + y ≤ 100000
theorem lw_c100000 : ((0, 100000, 0) : ev_V) = mw_i 100000 := by decide +kernel
theorem lw_goOn (hen : en_ok) {lc : Launch} {h : ev_H} {E : e2_E} {l : List ev_V} {T y : Int} (hc : ev_hg h 77 = (1, l)) (hl : l[3]? = some (mw_i T)) (hT : 0 ≤ T ∧ T ≤ 100000) (hy : -2147483648 ≤ y ∧ y < 2147483648) : sy_C lc 1 28 [(2, 77, 0), mw_i y] E h (fun v _ h' => (v = mw_i (-1) ∧ h' = h ∧ ¬ lw_g T y) ∨ (v = mw_i (T + y) ∧ h' = ev_hs h 77 (1, l.set 3 (mw_i (T + y))) ∧ lw_g T y)) := by
  refine mw_con (D := 0) (C := evd_28) (X := e2x_28) [] hen ei_28 ex2_28 (Nat.le_of_ble_eq_true rfl) fun d F G hd hF hG => ?_
  show G 0 [(2, 77, 0), mw_i y] [] E h
  have l3 := (List.getElem?_eq_some_iff.mp hl).1
  have no : ¬ lw_g T y → G 22 [(2, 77, 0), mw_i y] [] E h := fun hz => mw_push hG a28_22 mw_cm1 (mw_iret hG a28_23 (Or.inl rfl) (hF _ _ _ (Or.inl ⟨rfl, rfl, hz⟩)))
  refine mw_iload hG a28_0 rfl (mw_ifc_lt hG a28_1 hy (fun z => no fun g => by have := g.1; omega) fun z0 => ?_)
  refine mw_iload hG a28_4 rfl (mw_push hG a28_5 mw_c1000 (mw_icmp_gt hG a28_8 hy (by omega) (fun z => no fun g => by have := g.2.1; omega) fun z1 => ?_))
  refine mw_aload hG a28_11 rfl (sy_getf hG.1 a28_12 (by omega) hc hl (Or.inl rfl) (mw_iload hG a28_15 rfl (mw_add hG a28_16 (mw_push hG a28_17 lw_c100000 (mw_icmp_le hG a28_19 (by omega) (by omega) (fun z2 => ?_) fun z2 => no fun g => by have := g.2.2; omega)))))
  refine mw_aload hG a28_24 rfl (mw_dup hG a28_25 rfl (sy_getf hG.1 a28_26 (by omega) hc hl (Or.inl rfl) (mw_iload hG a28_29 rfl (mw_add hG a28_30 (sy_putf hG.1 a28_31 (by omega) hc l3 (Or.inl rfl) (mw_aload hG a28_34 rfl (sy_getf hG.1 a28_35 (by omega) (rd_e (by omega)) (by rw [List.getElem?_set, if_pos rfl, if_pos l3]; rfl) (Or.inl rfl) (mw_iret hG a28_38 (Or.inl rfl) (hF _ _ _ (Or.inr ⟨rfl, rfl, z0, z1, z2⟩)))))))))) 
theorem lw_laterC (hen : en_ok) {lc : Launch} {h : ev_H} {E : e2_E} {l l0 : List ev_V} {T y : Int} (h0 : ev_hg h 0 = (9, l0)) (h05 : l0[5]? = some (2, 77, 0)) (hc : ev_hg h 77 = (1, l)) (hl : l[3]? = some (mw_i T)) (hT : 0 ≤ T ∧ T ≤ 100000) (hy : -2147483648 ≤ y ∧ y < 2147483648) : sy_C lc 2 152 [(2, 0, 0), mw_i y] E h (fun v _ h' => (v = mw_i (-1) ∧ h' = h ∧ ¬ lw_g T y) ∨ (v = mw_i (T + y) ∧ h' = ev_hs h 77 (1, l.set 3 (mw_i (T + y))) ∧ lw_g T y)) := by
  refine mw_con (D := 1) (C := evd_152) (X := e2x_152) [] hen ei_152 ex2_152 (Nat.le_of_ble_eq_true rfl) fun d F G hd hF hG => ?_
  show G 0 [(2, 0, 0), mw_i y] [] E h
  refine mw_aload hG a152_0 rfl (sy_getf hG.1 a152_1 (by omega) h0 h05 (Or.inr rfl) (mw_iload hG a152_4 rfl (sy_virt (qs := [mw_i y]) (r := []) hG.1 a152_5 rfl rfl (by omega) hc rfl (lw_goOn hen hc hl hT hy) hd fun v E' h' hp => ?_)))
  rcases hp with ⟨rfl, rfl, hz⟩ | ⟨rfl, rfl, hz⟩
  · exact ⟨by show (0 : Nat) ≠ 12; decide, mw_iret hG a152_8 (Or.inl rfl) (hF _ _ _ (Or.inl ⟨rfl, rfl, hz⟩))⟩
  · exact ⟨by show (0 : Nat) ≠ 12; decide, mw_iret hG a152_8 (Or.inl rfl) (hF _ _ _ (Or.inr ⟨rfl, rfl, hz⟩))⟩
theorem lw_isIn (hen : en_ok) {lc : Launch} {h : ev_H} {E : e2_E} {y a b : Int} (hy : -2147483648 ≤ y ∧ y < 2147483648) (ha : -2147483648 ≤ a ∧ a < 2147483648) (hb : -2147483648 ≤ b ∧ b < 2147483648) : sy_C lc 1 212 [mw_i y, mw_i a, mw_i b] E h (fun v E' h' => E' = E ∧ h' = h ∧ ((v = mw_i 1 ∧ a ≤ y ∧ y ≤ b) ∨ (v = mw_i 0 ∧ ¬ (a ≤ y ∧ y ≤ b)))) := by
  refine mw_con (D := 0) (C := evd_212) (X := e2x_212) [] hen ei_212 ex2_212 (Nat.le_of_ble_eq_true rfl) fun d F G hd hF hG => ?_
  show G 0 [mw_i y, mw_i a, mw_i b] [] E h
  have no : ¬ (a ≤ y ∧ y ≤ b) → G 14 [mw_i y, mw_i a, mw_i b] [] E h := fun hz => mw_push hG a212_14 mw_c0 (mw_iret hG a212_15 (Or.inr ⟨rfl, Or.inl rfl⟩) (hF _ _ _ ⟨rfl, rfl, Or.inr ⟨rfl, hz⟩⟩))
  refine mw_iload hG a212_0 rfl (mw_iload hG a212_1 rfl (mw_icmp_lt hG a212_2 hy ha (fun z => no fun g => by omega) fun z0 => ?_))
  refine mw_iload hG a212_5 rfl (mw_iload hG a212_6 rfl (mw_icmp_gt hG a212_7 hy hb (fun z => no fun g => by omega) fun z1 => ?_))
  exact mw_push hG a212_10 mw_c1 (mw_goto hG a212_11 (mw_iret hG a212_15 (Or.inr ⟨rfl, Or.inr rfl⟩) (hF _ _ _ ⟨rfl, rfl, Or.inl ⟨rfl, z0, z1⟩⟩)))
theorem lw_laterR (hen : en_ok) {lc : Launch} {h : ev_H} {E : e2_E} {l : List ev_V} {T y : Int} (hc : ev_hg h 83 = (10, l)) (hl : l[22]? = some (mw_i T)) (hT : 0 ≤ T ∧ T ≤ 100000) (hy : -2147483648 ≤ y ∧ y < 2147483648) : sy_C lc 2 280 [(2, 83, 0), mw_i y] E h (fun v _ h' => (v = mw_i (-1) ∧ h' = h ∧ ¬ lw_g T y) ∨ (v = mw_i (T + y) ∧ h' = ev_hs h 83 (10, l.set 22 (mw_i (T + y))) ∧ lw_g T y)) := by
  refine mw_con (D := 1) (C := evd_280) (X := e2x_280) [] hen ei_280 ex2_280 (Nat.le_of_ble_eq_true rfl) fun d F G hd hF hG => ?_
  show G 0 [(2, 83, 0), mw_i y] [] E h
  have l3 := (List.getElem?_eq_some_iff.mp hl).1
  have no : ¬ lw_g T y → G 23 [(2, 83, 0), mw_i y] [] E h := fun hz => mw_push hG a280_23 mw_cm1 (mw_iret hG a280_24 (Or.inl rfl) (hF _ _ _ (Or.inl ⟨rfl, rfl, hz⟩)))
  refine mw_iload hG a280_0 rfl (mw_push hG a280_1 mw_c0 (mw_push hG a280_2 mw_c1000 (sy_stat (qs := [mw_i 1000, mw_i 0, mw_i y]) (r := []) hG.1 a280_5 rfl rfl rfl (lw_isIn hen hy (by omega) (by omega)) hd fun v E' h' hp => ?_)))
  obtain ⟨rfl, rfl, hp⟩ := hp
  rcases hp with ⟨rfl, z0, z1⟩ | ⟨rfl, hz⟩
  · refine ⟨by show (0 : Nat) ≠ 12; decide, mw_ifc_eq hG a280_8 (by omega) (fun z => absurd z (by decide)) fun _ => ?_⟩
    refine mw_aload hG a280_11 rfl (sy_getf hG.1 a280_12 (by omega) hc hl (Or.inl rfl) (mw_iload hG a280_15 rfl (mw_add hG a280_16 (mw_push hG a280_17 lw_c100000 (mw_icmp_le hG a280_20 (by omega) (by omega) (fun z2 => ?_) fun z2 => no fun g => by have := g.2.2; omega)))))
    exact mw_aload hG a280_25 rfl (mw_dup hG a280_26 rfl (sy_getf hG.1 a280_27 (by omega) hc hl (Or.inl rfl) (mw_iload hG a280_30 rfl (mw_add hG a280_31 (sy_putf hG.1 a280_32 (by omega) hc l3 (Or.inl rfl) (mw_aload hG a280_35 rfl (sy_getf hG.1 a280_36 (by omega) (rd_e (by omega)) (by rw [List.getElem?_set, if_pos rfl, if_pos l3]; rfl) (Or.inl rfl) (mw_iret hG a280_39 (Or.inl rfl) (hF _ _ _ (Or.inr ⟨rfl, rfl, z0, z1, z2⟩))))))))))
  · exact ⟨by show (0 : Nat) ≠ 12; decide, mw_ifc_eq hG a280_8 (by omega) (fun _ => no fun g => hz ⟨g.1, g.2.1⟩) fun z => absurd rfl z⟩
/-! names: what names none stands at every list of ranks -/
theorem lw_rcT {cA : e2_cA} {ads r : List Nat} {tag n : Nat} {l : List ev_V} {e : va_E} (q2 : e2_relC cA ads r tag l e) (hl : e2_idl n l = true) : e2_relC cA ads (r.take n) tag l e := by
  rcases q2 with ⟨z0, vs, z1, z2, z3⟩ | ⟨z0, z1, f, z2, z3⟩ | z | z | z | z | ⟨z0, f, z2, z3⟩ | ⟨z0, f, z2, z3⟩
  · exact Or.inl ⟨z0, vs, z1, z2, fun j v hj => by obtain ⟨w, w1, w2⟩ := z3 j v hj; exact ⟨w, w1, e2_idv_ok (e2_idl_ok hl j v hj) w2⟩⟩
  · exact Or.inr (Or.inl ⟨z0, z1, f, z2, fun j v hj => e2_idv_ok (e2_idl_ok hl j v hj) (z3 j v hj)⟩)
  · exact Or.inr (Or.inr (Or.inl z))
  · exact Or.inr (Or.inr (Or.inr (Or.inl z)))
  · exact Or.inr (Or.inr (Or.inr (Or.inr (Or.inl z))))
  · exact Or.inr (Or.inr (Or.inr (Or.inr (Or.inr (Or.inl z)))))
  · exact Or.inr (Or.inr (Or.inr (Or.inr (Or.inr (Or.inr (Or.inl ⟨z0, f, z2, fun j v hj => e2_idv_ok (e2_idl_ok hl j v hj) (z3 j v hj)⟩))))))
  · exact Or.inr (Or.inr (Or.inr (Or.inr (Or.inr (Or.inr (Or.inr ⟨z0, f, z2, fun j v hj => e2_idv_ok (e2_idl_ok hl j v hj) (z3 j v hj)⟩))))))
theorem lw_rvN {ads r r' : List Nat} {v : ev_V} {w : Value} (h : e2_rel ads r v w) (hi : e2_idv 0 v = true) : e2_rel ads r' v w := (e2_idv_ok hi h).mono ⟨r', rfl⟩
theorem lw_rcN {cA : e2_cA} {ads r r' : List Nat} {tag : Nat} {l : List ev_V} {e : va_E} (h : e2_relC cA ads r tag l e) (hi : e2_idl 0 l = true) : e2_relC cA ads r' tag l e := (lw_rcT h hi).mono ⟨r', rfl⟩
/-- closed: the class's weak heap names the time alone -/
def lw_okL (hW : ev_H) : Prop := (∃ l0, ev_hg hW 0 = (9, l0) ∧ l0[5]? = some (2, 77, 0)) ∧ (∃ l, ev_hg hW 77 = (1, l) ∧ l[3]? = some (1, 0, 4294967296)) ∧ e2_idh 0 8 (e2_gset hW 77 3 (0, 0, 0)) = true ∧ (∀ k, k < 83 → (ev_hg hW k).1 < 60) ∧ (∀ k, k < 133 → ¬ (0 ≤ k ∧ k < 83) → ev_hg hW k = (100 + k, [])) ∧ (ev_hg hW 50).1 ≠ 57 ∧ (ev_hg hW 68).1 ≠ 57
theorem lw_okL.id {hW : ev_H} (h : lw_okL hW) : (∀ k, k < 133 → k ≠ 77 → e2_idl 0 (ev_hg hW k).2 = true) ∧ ∀ j v, j ≠ 3 → (ev_hg hW 77).2[j]? = some v → e2_idv 0 v = true := by
  obtain ⟨-, -, hi, -⟩ := h
  refine ⟨fun k hk h77 => ?_, fun j v hj hv => ?_⟩
  · have : e2_idl 0 (ev_hg (e2_gset hW 77 3 (0, 0, 0)) k).2 = true := e2_idh_ok 8 _ hi k
    rw [e2_gset_at (by omega) hk, if_neg h77] at this
    exact this
  · have : e2_idl 0 (ev_hg (e2_gset hW 77 3 (0, 0, 0)) 77).2 = true := e2_idh_ok 8 _ hi 77
    rw [e2_gset_at (by omega) (by omega), if_pos rfl] at this
    exact e2_idl_ok this j v (by show ((ev_hg hW 77).2.set 3 (0, 0, 0))[j]? = some v; rw [List.getElem?_set, if_neg (fun z => hj z.symm)]; exact hv)
theorem lw_CL.ex {c1 : Nat → ClassId} {ads : List Nat} {ws : va_W} {hW : ev_H} {T : Nat} (hL : lw_okL hW) (hC : lw_CL c1 ads ws hW T) : lw_h (lw_no c1) ads [] ws (e2_gset hW 77 3 (mw_i (T : Int))) 0 83 := fun k _ hk => by
  obtain ⟨e, he, hr⟩ := hC k (Nat.zero_le _) hk
  obtain ⟨i1, i2⟩ := hL.id
  refine ⟨e, he, ?_⟩
  rw [e2_gset_at (by omega) (by omega)]
  by_cases h77 : k = 77
  · subst h77
    rw [if_pos rfl]
    obtain ⟨-, ⟨l, o1, o2⟩, -⟩ := hL
    rw [o1] at hr i2
    obtain ⟨vs, rfl, v2, v3⟩ := hr.obj (show 1 < 50 by decide)
    rw [o1]
    refine Or.inl ⟨by show 1 < 50; decide, vs, rfl, by rw [List.length_set]; exact v2, fun j v hj => ?_⟩
    by_cases j3 : j = 3
    · subst j3
      rw [List.getElem?_set, if_pos rfl, if_pos (List.getElem?_eq_some_iff.mp o2).1] at hj
      cases hj
      obtain ⟨w, w1, x, k, rfl, x1, x2⟩ := v3 3 _ o2
      have x1 : some (lw_T T) = some k := x1
      cases x1
      refine ⟨_, w1, ?_⟩
      have hx := ev_key_int x
      have x2 : ev_key x + 4294967296 = lw_T T + 4294967296 := x2
      unfold lw_T at x2
      have : x = Int32.ofInt (T : Int) := by
        rw [show (T : Int) = x.toInt by omega, Int32.ofInt_toInt]
      rw [this]
      show Value.int (Int32.ofInt (T : Int)) = .int (ev_i (ev_u (Int32.ofInt (T : Int))))
      rw [ev_iu]
    · rw [List.getElem?_set, if_neg (fun z => j3 z.symm)] at hj
      obtain ⟨w, w1, w2⟩ := v3 j v hj
      exact ⟨w, w1, lw_rvN w2 (i2 j v j3 hj)⟩
  · rw [if_neg h77]
    exact lw_rcN hr (i1 k (by omega) h77)
theorem lw_CL.of {D : va_G} {cA : e2_cA} {A : Nat → Prop} {c1 : Nat → ClassId} {ads r : List Nat} {ws : va_W} {H : Heap} {hW : ev_H} {T : Nat} (hL : lw_okL hW) (hT : T ≤ 100000) (hc : cA.1 = c1) (hw : e2_wo D cA A ads r ws (e2_gset hW 77 3 (mw_i (T : Int))) H) : lw_CL c1 ads ws hW T := fun k _ hk => by
  obtain ⟨e, he, hr⟩ := lw_half hw 0 83 (by omega) k (Nat.zero_le _) hk
  obtain ⟨i1, i2⟩ := hL.id
  have h60 := hL.2.2.2.1 k hk
  refine ⟨e, he, lw_sw ?_ h60 hc.symm⟩
  rw [e2_gset_at (by omega) (by omega)] at hr
  by_cases h77 : k = 77
  · subst h77
    rw [if_pos rfl] at hr
    obtain ⟨-, ⟨l, o1, o2⟩, -⟩ := hL
    rw [o1] at hr i2
    rw [o1]
    obtain ⟨vs, rfl, v2, v3⟩ := hr.obj (show 1 < 50 by decide)
    refine Or.inl ⟨by show 1 < 50; decide, vs, rfl, by rw [v2, List.length_set], fun j v hj => ?_⟩
    have hj : l[j]? = some v := hj
    by_cases j3 : j = 3
    · subst j3
      rw [o2] at hj
      cases hj
      obtain ⟨w, w1, w2⟩ := v3 3 (mw_i (T : Int)) (by rw [List.getElem?_set, if_pos rfl, if_pos (List.getElem?_eq_some_iff.mp o2).1])
      have w2 : w = .int (ev_i (ev_u (Int32.ofInt (T : Int)))) := w2
      rw [ev_iu] at w2
      subst w2
      exact ⟨_, w1, lw_fx.T rfl (by omega)⟩
    · obtain ⟨w, w1, w2⟩ := v3 j v (by rw [List.getElem?_set, if_neg (fun z => j3 z.symm)]; exact hj)
      exact ⟨w, w1, lw_rvN w2 (i2 j v j3 hj)⟩
  · rw [if_neg h77] at hr
    exact lw_rcN hr (i1 k (by omega) h77)
