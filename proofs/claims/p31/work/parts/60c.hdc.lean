/-! comes, exchange, keepAct as summaries -/
theorem ob_le {cA : e2_cA} {ads r : List Nat} {ci : Nat} {l l' : List ev_V} {e : va_E} (hci : ci < 50) (hl : l'.length = l.length) (hz : ∀ (j : Nat) (v : ev_V), l[j]? = some v → ∃ u, l'[j]? = some u ∧ ∀ w, e2_rel ads r u w → e2_rel ads r v w) (h : e2_relC cA ads r ci l' e) : e2_relC cA ads r ci l e := by
  obtain ⟨vs, z1, z2, z3⟩ := h.obj hci
  refine Or.inl ⟨hci, vs, z1, by rw [z2, hl], fun j v hj => ?_⟩
  obtain ⟨u, u1, u2⟩ := hz j v hj
  obtain ⟨w, w1, w2⟩ := z3 j u u1
  exact ⟨w, w1, u2 w w2⟩
theorem ob_11 {ads r : List Nat} {x : Int32} {a b : Nat} (h : a ≤ ev_key x ∧ ev_key x ≤ b) : ∀ w, e2_rel ads r (sy_I x) w → e2_rel ads r (11, a, b) w := fun w hw => ⟨x, by rw [show w = .int (ev_i (ev_u x)) from hw, ev_iu], h.1, h.2⟩
theorem rf_n_c : ∀ b, b < 2 → ∀ m, m < 4 → rf_n (60 + 10 * b + m) = 1120 := by decide
theorem rf_n_f : ∀ b, b < 2 → rf_n (64 + 10 * b) = 4 ∧ rf_n (65 + 10 * b) = 4 := by decide
theorem ex_C_op {c : ev_C} {e : va_E} (h : 60 ≤ c.1) : ex_C c e = c := by
  obtain ⟨t, l⟩ := c
  have h : 60 ≤ t := h
  unfold ex_C
  split
  · rw [if_neg (by show ¬ (t = 50 ∨ t = 54 ∨ t = 57 ∨ t = 58); omega), if_neg (by show ¬ (t = 51 ∨ t = 55); omega), if_neg (by show ¬ (t = 52 ∨ t = 56); omega)]
  · rw [if_neg (by show ¬ (t = 53 ∨ t = 59); omega)]
  · rw [if_neg (by show ¬ t < 50; omega)]
  · rfl
theorem ex_op {D : va_G} {cA : e2_cA} {A : Nat → Prop} {ads r : List Nat} {ws : va_W} {f : ev_H} {H : Heap} (hw : e2_wo D cA A ads r ws f H) {k : Nat} (hk : k < 133) (h : 60 ≤ (ev_hg f k).1) : ev_hg (ex_all ws f) k = ev_hg f k := by
  obtain ⟨a, e, q1, q2⟩ := hw.2.2.1 k hk
  rw [ex_get hk q1, ex_C_op h]
set_option maxHeartbeats 4000000 in
theorem hd_comes (hen : en_ok) {l : Launch} {E : e2_E} {f : ev_H} {b rr m : Nat} {lo l12 : List ev_V} (hb : b < 2) (hr : rr < 2) (hm : m < 4) (hbit : m / 2 ^ rr % 2 = 1) (c83 : ev_hg f 83 = (10, lo)) (b0 : lo[0]? = some (0, b, 0)) (b48 : lo[48]? = some (2, 101, 0)) (b49 : lo[49]? = some (2, 102, 0)) (b52 : lo[52]? = some (2, 107, 0)) (b53 : lo[53]? = some (2, 108, 0)) (b56 : lo[56]? = some (2, 111, 0)) (b5 : lo[5]? = some (2, 112, 0))
    (bi : ∀ j, j = 61 ∨ j = 62 ∨ j = 63 ∨ j = 64 ∨ j = 65 → ∃ v, lo[j]? = some v ∧ e2_isI v.1 = true) (c107 : (ev_hg f 107).1 = 60 + 10 * b + m) (c101 : (ev_hg f 101).1 = 64 + 10 * b) (c102 : (ev_hg f 102).1 = 65 + 10 * b) (c108 : ev_hg f 108 = hd_r 1120 0 4294967295) (c111 : ev_hg f 111 = hd_r 60 0 4294967295) (c112 : ev_hg f 112 = (50, l12)) (l26 : l12.length = 26) (n50 : (ev_hg f 50).1 ≠ 57) (n68 : (ev_hg f 68).1 ≠ 57)
    (hok : e2_okSB E.length [(2, 83, 0), (0, rr, 0)] f [((11, 0, 4294967295), f)] = true) (hres : e2_allR [((11, 0, 4294967295), f)] (fun x => e2_fin [((11, 0, 4294967295), f)] x.1 E x.2) = true) : e2_smOk l 2 (210, [(2, 83, 0), (0, rr, 0)], E, f, [((11, 0, 4294967295), f)]) := by
  refine sy_smOk (nL := 5) (D := 1) (C := evd_210) (X := e2x_210) [] hen ei_210 ex2_210 (Nat.le_of_ble_eq_true rfl) hok hres fun d hd Dg cA A ads r ws H ls hsat hwo hfr => ?_
  have hokA := hwo.2.1.2
  have w0 := ex_wo hwo
  obtain ⟨C, hC, w1⟩ := ex_opq w0 (k := 107) (t := 60 + 10 * b + m) (by omega) (by rw [ex_op hwo (by omega) (by omega)]; exact c107) (by omega) (by omega)
  rw [rf_n_c b hb m hm] at hC w1
  obtain ⟨Fr, hFr, w2⟩ := ex_opq w1 (k := 101) (t := 64 + 10 * b) (by omega) (by rw [rd_g (by omega) (by omega) (by omega) rfl, ex_op hwo (by omega) (by omega)]; exact c101) (by omega) (by omega)
  rw [(rf_n_f b hb).1] at hFr w2
  obtain ⟨To, hTo, w3⟩ := ex_opq w2 (k := 102) (t := 65 + 10 * b) (by omega) (by rw [rd_g (by omega) (by omega) (by omega) rfl, rd_g (by omega) (by omega) (by omega) rfl, ex_op hwo (by omega) (by omega)]; exact c102) (by omega) (by omega)
  rw [(rf_n_f b hb).2] at hTo w3
  obtain ⟨fr, L, hF1, hT1, hfl, hW⟩ := hokA.2.1 b rr m hb hr hm hbit C Fr To hC hFr hTo
  have e107 : ev_hg (ev_hs (ev_hs (ev_hs (ex_all ws f) 107 (50, sy_R 1120 C)) 101 (50, sy_R 4 Fr)) 102 (50, sy_R 4 To)) 107 = (50, sy_R 1120 C) := rd_g (by omega) (by omega) (by omega) (rd_g (by omega) (by omega) (by omega) (rd_e (by omega)))
  have e101 : ev_hg (ev_hs (ev_hs (ev_hs (ex_all ws f) 107 (50, sy_R 1120 C)) 101 (50, sy_R 4 Fr)) 102 (50, sy_R 4 To)) 101 = (50, sy_R 4 Fr) := rd_g (by omega) (by omega) (by omega) (rd_e (by omega))
  have e102 : ev_hg (ev_hs (ev_hs (ev_hs (ex_all ws f) 107 (50, sy_R 1120 C)) 101 (50, sy_R 4 Fr)) 102 (50, sy_R 4 To)) 102 = (50, sy_R 4 To) := rd_e (by omega)
  have eo : ∀ k, k < 133 → k ≠ 107 → k ≠ 101 → k ≠ 102 → ev_hg (ev_hs (ev_hs (ev_hs (ex_all ws f) 107 (50, sy_R 1120 C)) 101 (50, sy_R 4 Fr)) 102 (50, sy_R 4 To)) k = ev_hg (ex_all ws f) k := fun k hk h1 h2 h3 => rd_g (by omega) hk h3 (rd_g (by omega) hk h2 (rd_g (by omega) hk h1 rfl))
  generalize ev_hs (ev_hs (ev_hs (ex_all ws f) 107 (50, sy_R 1120 C)) 101 (50, sy_R 4 Fr)) 102 (50, sy_R 4 To) = hx at w3 e107 e101 e102 eo
  obtain ⟨N, -, -, g108⟩ := ex_54 hwo (k := 108) (by omega) c108
  obtain ⟨p0, -, -, g111⟩ := ex_54 hwo (k := 111) (by omega) c111
  obtain ⟨w, -, -, g112⟩ := ex_50 hwo (k := 112) (by omega) (Or.inl rfl) c112
  rw [l26] at g112
  obtain ⟨vs, l1, l2, l3⟩ := ex_obj hwo (k := 83) (by omega) (by omega) c83
  have ref : ∀ j a, lo[j]? = some (2, a, 0) → (List.zipWith ex_v lo vs)[j]? = some (2, a, 0) := fun j a hj => by
    obtain ⟨w, q1, q2⟩ := l2 j _ hj
    rw [hd_z hj q1, hd_ref q2]
  have int : ∀ j, j = 61 ∨ j = 62 ∨ j = 63 ∨ j = 64 ∨ j = 65 → ∃ x, (List.zipWith ex_v lo vs)[j]? = some (sy_I x) := fun j hj => by
    obtain ⟨v, v1, v2⟩ := bi j hj
    obtain ⟨w, q1, q2⟩ := l2 j _ v1
    obtain ⟨x, -, hx⟩ := nm_int q2 v2
    exact ⟨x, by rw [hd_z v1 q1, hx]⟩
  have hbk : (List.zipWith ex_v lo vs)[0]? = some (sy_I (ev_i b)) := by
    obtain ⟨w, q1, q2⟩ := l2 0 _ b0
    rw [hd_z b0 q1, show w = .int (ev_i b) from q2]
    rfl
  have hO : rf_O hx (List.zipWith ex_v lo vs) b := ⟨by rw [eo 83 (by omega) (by omega) (by omega) (by omega)]; exact l3, hbk, ref _ _ b48, ref _ _ b49, ref _ _ b52, ref _ _ b53, ref _ _ b56, ref _ _ b5, int 61 (by omega), int 62 (by omega), int 63 (by omega), int 64 (by omega), int 65 (by omega)⟩
  refine ⟨_, hx, fun v E' h' => sy_K ((∃ x, v = sy_I x) ∧ E' = E ∧ (∃ p, ev_hg h' 111 = (50, sy_R 60 p)) ∧ (∀ k, k < 133 → k ≠ 111 → ev_hg h' k = ev_hg hx k)), hfr, w3, fun G hG => ?_, fun v E' h' r' ws' H' hF' hp hw' => ?_⟩
  · have := rf_comes hen (b0 := 0) hb hr hO (by rw [eo 112 (by omega) (by omega) (by omega) (by omega)]; exact g112) e107 (by rw [eo 108 (by omega) (by omega) (by omega) (by omega)]; exact g108) e101 e102 (by rw [eo 111 (by omega) (by omega) (by omega) (by omega)]; exact g111) hF1 hT1 hfl hW d _ G hd (fun v E' h' hp => sy_K_i hp) hG
    have hrr : sy_I (ev_i rr) = (0, rr, 0) := by rw [sy_I, sy_ui (by omega)]
    rw [hrr] at this
    exact this
  · obtain ⟨⟨x, rfl⟩, -, ⟨p, hp111⟩, hoth⟩ := sy_K_e hF'
    refine ⟨_, List.mem_cons_self, ex_back hwo hp hw' n50 n68 fun k hk => ?_, fun z => (by cases z), fun _ => ⟨by show (11 : Nat) ≠ 9; decide, by show (11 : Nat) ≠ 7; decide⟩, ob_11 (hd_top x)⟩
    by_cases k1 : k = 111
    · subst k1
      refine Or.inr fun e' he' => ?_
      rw [hp111] at he'
      rw [c111]
      exact hd_cr (fun j _ => hd_top _) he'
    by_cases k2 : k = 107
    · subst k2
      refine Or.inr fun e' he' => ?_
      rw [hoth 107 hk k1, e107] at he'
      rw [c107]
      dsimp only at he'
      have hn := rf_n_c b hb m hm
      have t1 : 60 ≤ 60 + 10 * b + m := by omega
      have t2 : 60 + 10 * b + m < 76 := by omega
      generalize 60 + 10 * b + m = t at hn hC t1 t2
      exact ex_opq_bk (t := t) (n := 1120) (g := C) hokA t1 t2 hn hC he'
    by_cases k3 : k = 101
    · subst k3
      refine Or.inr fun e' he' => ?_
      rw [hoth 101 hk k1, e101] at he'
      rw [c101]
      exact ex_opq_bk (t := 64 + 10 * b) (g := Fr) hokA (by omega) (by omega) (rf_n_f b hb).1 hFr he'
    by_cases k4 : k = 102
    · subst k4
      refine Or.inr fun e' he' => ?_
      rw [hoth 102 hk k1, e102] at he'
      rw [c102]
      exact ex_opq_bk (t := 65 + 10 * b) (g := To) hokA (by omega) (by omega) (rf_n_f b hb).2 hTo he'
    · exact Or.inl ⟨by rw [hoth k hk k1, eo k hk k2 k3 k4], rfl⟩
