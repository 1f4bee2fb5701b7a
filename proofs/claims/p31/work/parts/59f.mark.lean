/-! readMark -/
theorem ex_55 {D : va_G} {cA : e2_cA} {A : Nat → Prop} {ads r : List Nat} {ws : va_W} {f : ev_H} {H : Heap} (hw : e2_wo D cA A ads r ws f H) {k n b lo hi : Nat} (hk : k < 133) (hc : ev_hg f k = (55, [(0, n, b), (11, lo, hi)])) : ∃ g, (∀ j, j < n → lo ≤ ev_key (g j) ∧ ev_key (g j) ≤ hi) ∧ ev_hg (ex_all ws f) k = (51, sy_R n g) := by
  obtain ⟨a, e, q1, q2⟩ := hw.2.2.1 k hk
  rw [ex_get hk q1]
  rw [hc] at q2 ⊢
  obtain ⟨N, b', lo', hi', g, l1, rfl, l3⟩ := q2.uni (show 54 ≤ 55 by decide) (show 55 ≤ 56 by decide)
  cases l1
  exact ⟨g, l3, rfl⟩
theorem tx_ob {cA : e2_cA} {ads r : List Nat} {e : va_E} {lo hi : Nat} {n k pl nu wl le : Int32} {w : Nat} (hn : lo ≤ ev_key n ∧ ev_key n ≤ hi) (hle : 2147483648 ≤ ev_key le ∧ ev_key le ≤ 2147485248) (hk : 2147483520 ≤ ev_key k ∧ ev_key k ≤ 2147483775) (hpl : 2147483648 ≤ ev_key pl ∧ ev_key pl ≤ 2147485248) (hwl : 2147482048 ≤ ev_key wl ∧ ev_key wl ≤ 2147485248) (h : e2_relC cA ads r 7 (tx_x n k pl nu wl le w) e) : e2_relC cA ads r 7 (tx_o lo hi) e := by
  obtain ⟨vs, z1, z2, z3⟩ := h.obj (by decide)
  refine Or.inl ⟨by decide, vs, z1, z2, fun j v hj => ?_⟩
  have iv : ∀ (x : Int32) (a b : Nat), a ≤ ev_key x ∧ ev_key x ≤ b → ∀ w, e2_rel ads r (sy_I x) w → e2_rel ads r (11, a, b) w := fun x a b hab w hw => ⟨x, by rw [show w = .int (ev_i (ev_u x)) from hw, ev_iu], hab.1, hab.2⟩
  have key : ∀ (j : Nat) (v : ev_V), (tx_o lo hi)[j]? = some v → ∃ u, (tx_x n k pl nu wl le w)[j]? = some u ∧ ∀ w, e2_rel ads r u w → e2_rel ads r v w := by
    intro j v hj
    match j, hj with
    | 0, hj => cases hj; exact ⟨_, rfl, iv _ _ _ hle⟩
    | 1, hj => cases hj; exact ⟨_, rfl, fun w hw => hw⟩
    | 2, hj => cases hj; exact ⟨_, rfl, iv _ _ _ hn⟩
    | 3, hj => cases hj; exact ⟨_, rfl, iv _ _ _ hk⟩
    | 4, hj => cases hj; exact ⟨_, rfl, iv _ _ _ hpl⟩
    | 5, hj => cases hj; exact ⟨_, rfl, iv _ _ _ (hd_top _)⟩
    | 6, hj => cases hj; exact ⟨_, rfl, fun w hw => ⟨_, hw⟩⟩
    | 7, hj => cases hj; exact ⟨_, rfl, iv _ _ _ hwl⟩
    | n + 8, hj => cases hj
  obtain ⟨u, u1, u2⟩ := key j v hj
  obtain ⟨w, w1, w2⟩ := z3 j u u1
  exact ⟨w, w1, u2 w w2⟩
set_option maxHeartbeats 4000000 in
theorem hd_mark (hen : en_ok) {l : Launch} {E : e2_E} {f q : ev_H} (hc : ev_hg f 34 = (7, tx_o 2147483648 2147485247)) (hc5 : ev_hg f 35 = (55, [(0, 1600, 0), (11, 2147483520, 2147483775)])) (n50 : (ev_hg f 50).1 ≠ 57) (n68 : (ev_hg f 68).1 ≠ 57) (hq : ev_hg q 34 = (7, tx_o 2147483649 2147485248)) (hqk : ∀ k, k < 133 → k ≠ 34 → ev_hg q k = ev_hg f k)
    (hok : e2_okSB E.length [(2, 34, 0)] f [((9, 0, 0), q)] = true) (hres : e2_allR [((9, 0, 0), q)] (fun x => e2_fin [((9, 0, 0), q)] x.1 E x.2) = true) : e2_smOk l 5 (114, [(2, 34, 0)], E, f, [((9, 0, 0), q)]) := by
  refine sy_smOkG (nL := 2) (D := 4) (C := evd_114) (M := (⟨"MeadowSigns$Tape", "readMark", "()V"⟩, prog_9_method_12_code, 2, none)) ei_114 rfl (Nat.le_of_ble_eq_true rfl) hok hres fun d hd Dg cA A ads r ws H ls hsat hwo hfr => ?_
  obtain ⟨n, k, pl, nu, wl, le, w, hw, ⟨bn, ble, bk, bpl, bwl⟩, hx⟩ := tx_ex hwo hc
  obtain ⟨nn, hnn, rfl⟩ := ex_nat (n := 1599) bn.1 bn.2 (by omega)
  obtain ⟨g, hg1, hg2⟩ := ex_55 hwo (k := 35) (by omega) hc5
  refine ⟨_, _, fun v E' h' => sy_K (v = (9, 0, 0) ∧ (∃ k : Int32, (2147483520 ≤ ev_key k ∧ ev_key k ≤ 2147483775) ∧ ev_hg h' 34 = (7, tx_x (ev_i (nn + 1)) k pl nu wl le w)) ∧ ∀ j, j < 133 → j ≠ 34 → ev_hg h' j = ev_hg (ex_all ws f) j), hfr, ex_wo hwo, fun p e R s m args below meth c Q hC ha => ?_, fun v E' h' r' ws' H' hF' hp hw' => ?_⟩
  rotate_left
  · obtain ⟨rfl, ⟨k', hk', h34⟩, hoth⟩ := sy_K_e hF'
    refine ⟨_, List.mem_cons_self, ex_back hwo hp hw' (by rw [hqk 50 (by omega) (by omega)]; exact n50) (by rw [hqk 68 (by omega) (by omega)]; exact n68) fun j hj => ?_, fun _ => rfl, fun z => absurd rfl z, fun w hw => hw⟩
    by_cases hj4 : j = 34
    · subst hj4
      refine Or.inr fun e' he' => ?_
      rw [h34] at he'
      rw [hq]
      refine tx_ob ?_ ble hk' bpl bwl he'
      rw [sy_k (by omega)]
      omega
    · exact Or.inl ⟨hoth j hj hj4, hqk j hj hj4⟩
  · have hG := sy_gd [] hen hC ex2_114 ha
    have s34 : ∀ (h : ev_H) (n k k' : Int32), ev_hg h 34 = (7, tx_x n k pl nu wl le w) → ev_hg (ev_hs h 34 (7, (tx_x n k pl nu wl le w).set 3 (sy_I k'))) 34 = (7, tx_x n k' pl nu wl le w) := fun h n k k' _ => rd_e (by omega)
    have oth : ∀ (h : ev_H) (c : ev_C), (∀ j, j < 133 → j ≠ 34 → ev_hg h j = ev_hg (ex_all ws f) j) → ∀ j, j < 133 → j ≠ 34 → ev_hg (ev_hs h 34 c) j = ev_hg (ex_all ws f) j := fun h c ho j hj hj4 => rd_g (by omega) hj hj4 (ho j hj hj4)
    have fin : ∀ (h : ev_H) (k : Int32) (v : ev_V), (2147483520 ≤ ev_key k ∧ ev_key k ≤ 2147483775) → ev_hg h 34 = (7, tx_x (ev_i nn) k pl nu wl le w) → (∀ j, j < 133 → j ≠ 34 → ev_hg h j = ev_hg (ex_all ws f) j) → e2_gdM (⟨"MeadowSigns$Tape", "readMark", "()V"⟩, prog_9_method_12_code, 2, none) p l e R s m args below meth c Q Dg cA A ads r 53 [(2, 34, 0), v] [] E h := fun h k v hk h34 ho => by
      refine sy_aload hG a114_53 rfl (sy_dup hG a114_54 rfl (sy_getf hG a114_55 (by omega) h34 rfl (Or.inl rfl) (sy_push (y := ev_i 1) hG a114_58 rfl (sy_bin2 hG a114_59 (sy_putf hG a114_60 (by omega) h34 (Nat.le_of_ble_eq_true rfl) (Or.inl rfl) (sy_vret hG a114_63 (sy_K_i ⟨rfl, ⟨k, hk, ?_⟩, oth _ _ ho⟩)))))))
      rw [show eb_add (ev_i nn) (ev_i 1) = ev_i (nn + 1) from sy_add nn 1]
      exact rd_e (by omega)
    have loop : ∀ j i, i + j = 11 → ∀ (h : ev_H) (k : Int32), (2147483520 ≤ ev_key k ∧ ev_key k ≤ 2147483775) → ev_hg h 34 = (7, tx_x (ev_i nn) k pl nu wl le w) → (∀ j, j < 133 → j ≠ 34 → ev_hg h j = ev_hg (ex_all ws f) j) → e2_gdM (⟨"MeadowSigns$Tape", "readMark", "()V"⟩, prog_9_method_12_code, 2, none) p l e R s m args below meth c Q Dg cA A ads r 7 [(2, 34, 0), sy_I (ev_i i)] [] E h := by
      intro j
      induction j with
      | zero =>
        intro i hij h k hk h34 ho
        refine sy_iload hG a114_7 rfl (st_slen ha rfl (by omega) (k := 1) (idx := 73) (Or.inr ⟨rfl, rfl⟩) (by decide +kernel) (by decide +kernel) rfl ?_)
        exact sy_icmp hG a114_13 (fun _ => fin h k _ hk h34 ho) (fun z => absurd ((sy_le (x := 11) (y := i) (by omega) (by omega)).mpr (by omega)) z)
      | succ j ih =>
        intro i hij h k hk h34 ho
        have hi11 : i < 11 := by omega
        have h35 : ev_hg h 35 = (51, sy_R 1600 g) := by rw [ho 35 (by omega) (by omega)]; exact hg2
        have next : ∀ (h : ev_H) (k : Int32), (2147483520 ≤ ev_key k ∧ ev_key k ≤ 2147483775) → ev_hg h 34 = (7, tx_x (ev_i nn) k pl nu wl le w) → (∀ j, j < 133 → j ≠ 34 → ev_hg h j = ev_hg (ex_all ws f) j) → e2_gdM (⟨"MeadowSigns$Tape", "readMark", "()V"⟩, prog_9_method_12_code, 2, none) p l e R s m args below meth c Q Dg cA A ads r 47 [(2, 34, 0), sy_I (ev_i i)] [] E h := fun h k hk h34 ho => by
          refine sy_iinc (y := 1) hG a114_47 rfl (x := ev_i i) rfl rfl rfl (sy_goto hG a114_50 ?_)
          rw [show ev_i i + 1 = ev_i (i + 1) from sy_add i 1]
          exact ih (i + 1) (by omega) h k hk h34 ho
        refine sy_iload hG a114_7 rfl (st_slen ha rfl (by omega) (k := 1) (idx := 73) (Or.inr ⟨rfl, rfl⟩) (by decide +kernel) (by decide +kernel) rfl ?_)
        refine sy_icmp hG a114_13 (fun _ => fin h k _ hk h34 ho) (fun _ => ?_)
        refine st_schr ha rfl (by omega) (k := 1) (idx := 73) (i := 1) (j := i) (ln := 1) (Or.inr ⟨rfl, rfl⟩) hi11 rfl (by decide +kernel) (Or.inr ⟨rfl, 1, rfl, by decide +kernel⟩) (by decide +kernel) rfl ?_
        refine sy_aload hG a114_22 rfl (sy_getf hG a114_23 (by omega) h34 rfl (Or.inr rfl) (sy_aload hG a114_26 rfl (sy_getf hG a114_27 (by omega) h34 rfl (Or.inl rfl) (sy_bald hG a114_30 (by omega) h35 (by omega) (i := nn) (by omega) rfl (sy_icmp hG a114_31 (fun _ => next h k hk h34 ho) (fun _ => ?_))))))
        refine sy_aload hG a114_34 rfl (sy_aload hG a114_35 rfl (sy_getf hG a114_36 (by omega) h34 rfl (Or.inr rfl) (sy_aload hG a114_39 rfl (sy_getf hG a114_40 (by omega) h34 rfl (Or.inl rfl) (sy_bald hG a114_43 (by omega) h35 (by omega) (i := nn) (by omega) rfl (sy_putf hG a114_44 (by omega) h34 (Nat.le_of_ble_eq_true rfl) (Or.inl rfl) ?_))))))
        exact next _ (g nn) (hg1 nn (by omega)) (s34 h _ _ _ h34) (oth h _ ho)
    show e2_gdM _ p l e R s m args below meth c Q Dg cA A ads r 0 [(2, 34, 0), (9, 0, 0)] [] E (ex_all ws f)
    refine sy_aload hG a114_0 rfl (sy_push (y := 1) hG a114_1 rfl (sy_putf hG a114_2 (by omega) hx (Nat.le_of_ble_eq_true rfl) (Or.inl rfl) (sy_push (y := ev_i 0) hG a114_5 rfl (sy_istore hG a114_6 rfl (Nat.le_of_ble_eq_true rfl) rfl ?_))))
    exact loop 11 0 rfl _ 1 (by decide +kernel) (s34 _ _ _ _ hx) (oth _ _ fun _ _ _ => rfl)
