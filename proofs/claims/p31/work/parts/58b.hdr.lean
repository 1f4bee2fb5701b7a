/-! READ AND FOLLOW AS SUMMARIES, their ends -/
theorem hd_J0 {m o p L gm go gp gL : Nat → Int32} {s : Nat} (hJ : rd_J m o p L s 0) (hs : s ≤ 20) (h1 : ∀ j, j < 21 → gm j = m j) (h2 : ∀ j, j < 21 → go j = o j) (h3 : ∀ j, j < 189 → gp j = p j) (h4 : ∀ j, j < 8 → gL j = L j) : e2_J0 gm go gp gL s := by
  intro c hc
  obtain ⟨d, e1, e2, e3, e4⟩ := hJ c (Nat.zero_le _) hc
  refine ⟨d, by rw [h1 c (by omega)]; exact e1, e2, e3, fun hd => ?_⟩
  obtain ⟨e5, e6⟩ := e4 hd
  refine ⟨by rw [h1 d (by omega)]; exact e5, fun a ha q hq => ?_⟩
  have e6 := e6 a ha
  have hq2 : q = p (9 * d + (if sy_bt (o d) a then a else 8)) := by
    rw [hq, h2 d (by omega)]
    by_cases hb : sy_bt (o d) a = true
    · rw [if_pos ((sy_bt_u _ _).mp hb), if_pos hb]
      exact h3 _ (by omega)
    · rw [if_neg (fun z => hb ((sy_bt_u _ _).mpr z)), if_neg hb]
      exact h3 _ (by omega)
  rw [hq2]
  rcases e6 with z | ⟨g, t, z1, z2, z3, z4, z5⟩
  · exact Or.inl z
  · exact Or.inr ⟨g, t, z1, z2, by rw [h4 g z1]; exact z3, z4, z5⟩
theorem hd_J1 {m o p L : Nat → Int32} {s : Nat} (hJ : e2_J0 m o p L s) : rd_J m o p L s 0 := by
  intro c _ hc
  obtain ⟨d, e1, e2, e3, e4⟩ := hJ c hc
  refine ⟨d, e1, e2, e3, fun hd => ?_⟩
  obtain ⟨e5, e6⟩ := e4 hd
  refine ⟨e5, fun a ha => ?_⟩
  have := e6 a ha _ rfl
  have hq : (if ev_u (o d) / 2 ^ a % 2 = 1 then a else 8) = (if sy_bt (o d) a then a else 8) := by
    by_cases hb : sy_bt (o d) a = true
    · rw [if_pos ((sy_bt_u _ _).mp hb), if_pos hb]
    · rw [if_neg (fun z => hb ((sy_bt_u _ _).mpr z)), if_neg hb]
  rw [hq] at this
  exact this
section HdE
variable {D : va_G} {cA : e2_cA} {A : Nat → Prop} {ads r r' : List Nat} {ws ws' : va_W} {f q h' : ev_H} {H H' : Heap} {b t : Nat} {vf vq : ev_V} {e : va_E}
theorem hd_ob {lk fr : Int32} {k : Nat} (hk : k ≤ 20) (hv : e2_rel ads r vq (.int fr)) (h : e2_relC cA ads r 5 (rd_o b t lk fr (ev_i k)) e) : e2_relC cA ads r 5 (hd_o b t vq) e := by
  obtain ⟨vs, z1, z2, z3⟩ := h.obj (by decide)
  refine Or.inl ⟨by decide, vs, z1, z2, fun j v hj => ?_⟩
  have key : ∀ (j : Nat) (v : ev_V), (hd_o b t vq)[j]? = some v → ∃ u, (rd_o b t lk fr (ev_i k))[j]? = some u ∧ ∀ w, e2_rel ads r u w → e2_rel ads r v w := by
    intro j v hj
    match j, hj with
    | 0, hj => cases hj; exact ⟨_, rfl, fun w hw => hw⟩
    | 1, hj => cases hj; exact ⟨_, rfl, fun w hw => ⟨lk, by rw [show w = .int (ev_i (ev_u lk)) from hw, ev_iu], Nat.zero_le _, by have := ev_key_lt lk; show ev_key lk ≤ 4294967295; omega⟩⟩
    | 2, hj => cases hj; exact ⟨_, rfl, fun w hw => hw⟩
    | 3, hj => cases hj; exact ⟨_, rfl, fun w hw => hw⟩
    | 4, hj => cases hj; exact ⟨_, rfl, fun w hw => hw⟩
    | 5, hj => cases hj; exact ⟨_, rfl, fun w hw => hw⟩
    | 6, hj => cases hj; exact ⟨_, rfl, fun w hw => by rw [show w = .int (ev_i (ev_u fr)) from hw, ev_iu]; exact hv⟩
    | 7, hj => cases hj; exact ⟨_, rfl, fun w hw => hw⟩
    | 8, hj => cases hj; exact ⟨_, rfl, fun w hw => ⟨ev_i k, by rw [show w = .int (ev_i (ev_u (ev_i k))) from hw, ev_iu], by rw [sy_k (by omega)]; show 2147483648 ≤ 2147483648 + k; omega, by rw [sy_k (by omega)]; show 2147483648 + k ≤ 2147483668; omega⟩⟩
    | 9, hj => cases hj; exact ⟨_, rfl, fun w hw => hw⟩
    | 10, hj => cases hj; exact ⟨_, rfl, fun w hw => hw⟩
    | 11, hj => cases hj; exact ⟨_, rfl, fun w hw => hw⟩
    | 12, hj => cases hj; exact ⟨_, rfl, fun w hw => hw⟩
    | 13, hj => cases hj; exact ⟨_, rfl, fun w hw => hw⟩
    | 14, hj => cases hj; exact ⟨_, rfl, fun w hw => hw⟩
    | n + 15, hj => cases hj
  obtain ⟨u, u1, u2⟩ := key j v hj
  obtain ⟨w, w1, w2⟩ := z3 j u u1
  exact ⟨w, w1, u2 w w2⟩
theorem hd_cr {n lo hi : Nat} {g : Nat → Int32} (hg : ∀ j, j < n → lo ≤ ev_key (g j) ∧ ev_key (g j) ≤ hi) (h : e2_relC cA ads r 50 (sy_R n g) e) : e2_relC cA ads r 54 [(0, n, 0), (11, lo, hi)] e := by
  obtain ⟨g', g1, g2⟩ := ex_R_e (i := 0) (by omega) h
  exact Or.inr (Or.inr (Or.inr (Or.inl ⟨by decide, by decide, n, 0, lo, hi, g', rfl, g1, fun j hj => by rw [g2 j hj]; exact hg j hj⟩)))
theorem hd_cw {n lo hi : Nat} {g : Nat → Int32} (hg : ∀ j, j < n → lo ≤ ev_key (g j) ∧ ev_key (g j) ≤ hi) (h : e2_relC cA ads r 50 (sy_R n g) e) : e2_relC cA ads r 57 [(0, n, 0), (11, lo, hi), (1, 1, 4294967296)] e := by
  obtain ⟨g', g1, g2⟩ := ex_R_e (i := 0) (by omega) h
  exact Or.inr (Or.inr (Or.inr (Or.inr (Or.inr (Or.inl ⟨rfl, n, 0, lo, hi, 4294967296, g', rfl, g1, fun j hj => by rw [g2 j hj]; exact hg j hj⟩)))))
theorem hd_top (x : Int32) : 0 ≤ ev_key x ∧ ev_key x ≤ 4294967295 := ⟨Nat.zero_le _, by have := ev_key_lt x; omega⟩
theorem hd_bM {m : Nat → Int32} (h : rd_M m) : ∀ j, j < 21 → 2147483648 ≤ ev_key (m j) ∧ ev_key (m j) ≤ 2147483668 := fun j hj => by
  obtain ⟨d, h1, h2⟩ := h j hj
  rw [h2, sy_k (by omega)]
  omega
theorem hd_bB {n : Nat} {g : Nat → Int32} (hn : n ≤ 20) (h : rd_B n g) : ∀ j, j < 20 → 2147483648 ≤ ev_key (g j) ∧ ev_key (g j) ≤ 2147483647 + n := fun j hj => by
  obtain ⟨d, h1, h2⟩ := h j hj
  rw [h2, sy_k (by omega)]
  omega
theorem hd_m1 : ev_key (-1) = 2147483647 := by decide +kernel
theorem hd_bP {p : Nat → Int32} (h : rd_P p) : ∀ j, j < 189 → 2147483647 ≤ ev_key (p j) ∧ ev_key (p j) ≤ 2147483655 := fun j hj => by
  rcases h j hj with h2 | ⟨d, h1, h2⟩
  · rw [h2, hd_m1]; omega
  · rw [h2, sy_k (by omega)]; omega
/-- the end: what is left of the exact heap -/
theorem hd_end (hF : hd_F b t f vf) (hw : e2_wo D cA A ads r ws f H) (hp : ∃ x, r' = r ++ x) (hw' : e2_wo D cA A ads r' ws' h' H') {s n k : Nat} {lk fr : Int32} {m o p L sh nb na w : Nat → Int32} (hr1 : r[1]? = some (2147483648 + s)) (hT : rd_T b t (ex_all ws f) s n L sh nb na w) (hk : k ≤ 20) (hS : rd_S b t (ex_all ws f) h' lk fr (ev_i k) m o p) (hM : rd_M m) (hP : rd_P p) (hms : m s = ev_i s) (hJ : rd_J m o p L s 0) (hv : e2_rel ads r' vq (.int fr))
    (q1 : ev_hg q b = (5, hd_o b t vq)) (q4 : ev_hg q (b + 4) = hd_w 21 0 4294967295) (q6 : ev_hg q (b + 6) = hd_w 189 2147483647 2147483655) (qk : ∀ k, k < 133 → k ≠ b → k ≠ b + 4 → k ≠ b + 6 → ev_hg q k = ev_hg f k) : e2_wo D cA A ads r' ws' q H' := by
  obtain ⟨hb, ht, -, -, c8, -, -, -, -, c3, c5, c7, c8', c9, c10, c11, n1, n2⟩ := hF
  obtain ⟨h1, h2, h3, h4, h5, h6⟩ := hw'
  obtain ⟨g0, g1, g3, g4, g6, ⟨f5, g5⟩, ⟨f7, g7⟩, ⟨f8, g8⟩, ⟨f9, g9⟩, ⟨f10, b10, g10⟩, ⟨f11, b11, g11⟩⟩ := hS
  have hs20 : s ≤ 20 := hT.2.2.1
  refine ⟨h1, h2, fun k' hk' => ?_, h4, h5, ?_⟩
  · obtain ⟨a', e', y1, y2⟩ := h3 k' hk'
    refine ⟨a', e', y1, ?_⟩
    by_cases hkb : k' = b
    · subst hkb
      rw [q1]
      rw [g1] at y2
      exact hd_ob hk hv y2
    by_cases hkr : k' < b + 3 ∨ b + 11 < k'
    · rw [g0 k' hk' hkb hkr] at y2
      rw [qk k' hk' hkb (by omega) (by omega)]
      obtain ⟨a, e, z1, z2⟩ := hw.2.2.1 k' hk'
      rw [ex_get hk' z1] at y2
      exact ex_bk z2 hp y2
    have hj : k' = b + 3 ∨ k' = b + 4 ∨ k' = b + 5 ∨ k' = b + 6 ∨ k' = b + 7 ∨ k' = b + 8 ∨ k' = b + 9 ∨ k' = b + 10 ∨ k' = b + 11 := by omega
    rcases hj with rfl | rfl | rfl | rfl | rfl | rfl | rfl | rfl | rfl
    · rw [qk _ hk' hkb (by omega) (by omega), c3]
      rw [g3] at y2
      exact hd_cw (hd_bM hM) y2
    · rw [q4]
      rw [g4] at y2
      exact hd_cw (fun j _ => hd_top _) y2
    · rw [qk _ hk' hkb (by omega) (by omega), c5]
      rw [g5] at y2
      exact hd_cr (fun j _ => hd_top _) y2
    · rw [q6]
      rw [g6] at y2
      exact hd_cw (hd_bP hP) y2
    · rw [qk _ hk' hkb (by omega) (by omega), c7]
      rw [g7] at y2
      exact hd_cr (fun j _ => hd_top _) y2
    · rw [qk _ hk' hkb (by omega) (by omega), c8']
      rw [g8] at y2
      exact hd_cr (fun j _ => hd_top _) y2
    · rw [qk _ hk' hkb (by omega) (by omega), c9]
      rw [g9] at y2
      exact hd_cr (fun j _ => hd_top _) y2
    · rw [qk _ hk' hkb (by omega) (by omega), c10]
      rw [g10] at y2
      exact hd_cr (fun j hj => by have := hd_bB (Nat.le_refl 20) b10 j hj; omega) y2
    · rw [qk _ hk' hkb (by omega) (by omega), c11]
      rw [g11] at y2
      exact hd_cr (fun j hj => by have := hd_bB (by omega) b11 j hj; omega) y2
  · have row : ∀ (k N : Nat) (g : Nat → Int32), k < 133 → ev_hg h' k = (50, sy_R N g) → ∃ g', e2_ct ws' k g' ∧ ∀ j, j < N → g' j = g j := fun k N g hk hg => by
      obtain ⟨a', e', y1, y2⟩ := h3 k hk
      rw [hg] at y2
      obtain ⟨g', g1, g2⟩ := ex_R_e (i := 0) (by omega) y2
      exact ⟨g', ⟨_, N, by rw [y1, g1]; rfl⟩, g2⟩
    obtain ⟨gm, m1, m2⟩ := row (b + 3) 21 m (by omega) g3
    obtain ⟨go, o1, o2⟩ := row (b + 4) 21 o (by omega) g4
    obtain ⟨gp, p1, p2⟩ := row (b + 6) 189 p (by omega) g6
    have hL : ev_hg h' (t + 5) = (50, sy_R 8 L) := by
      rw [g0 (t + 5) (by omega) (by omega) (by omega)]
      exact hT.2.2.2.2.2.2.1
    obtain ⟨gL, L1, L2⟩ := row (t + 5) 8 L (by omega) hL
    have hgs : gm s = ev_i s := by rw [m2 s (by omega)]; exact hms
    have hr' : r'[1]? = some (2147483648 + s) := e2_r1 hp _ hr1
    have k4 : e2_Jpr [b + 3, b + 4, b + 6, t + 5] r' ws' := by
      refine ⟨s, fun i => match i with | 0 => gm | 1 => go | 2 => gp | _ => gL, hr', hs20, fun i hi => ?_, fun _ => hd_J0 hJ hs20 m2 o2 p2 L2, hgs⟩
      match i, hi with
      | 0, _ => exact m1
      | 1, _ => exact o1
      | 2, _ => exact p1
      | 3, _ => exact L1
    have k1 : e2_Jpr [b + 3] r' ws' := by
      refine ⟨s, fun _ => gm, hr', hs20, fun i hi => ?_, fun z => absurd z (show ¬ (1 : Nat) = 4 by decide), hgs⟩
      match i, hi with
      | 0, _ => exact m1
    have x1 : ¬ (ev_hg q (112 - b + 3)).1 = 57 := by rw [qk _ (by omega) (by omega) (by omega) (by omega), n1]; decide
    have x2 : ¬ ((ev_hg q (18 - t + 5)).1 = 57 ∨ (ev_hg q (18 - t + 5)).1 = 58) := by rw [qk _ (by omega) (by omega) (by omega) (by omega), n2]; decide
    intro cs hcs hgd
    simp only [e2_Jc, List.mem_cons, List.not_mem_nil, or_false] at hcs
    rcases hb with rfl | rfl <;> rcases ht with rfl | rfl <;> rcases hcs with rfl | rfl | rfl | rfl | rfl | rfl <;> first | exact k4 | exact k1 | exact absurd hgd.1 x1 | exact absurd (hgd.2 6 (by decide)) x2 | exact absurd (hgd.2 22 (by decide)) x2
end HdE
theorem hd_tp {b t : Nat} (hb : b = 47 ∨ b = 65) (ht : t = 1 ∨ t = 17) : [b + 3, b + 4, b + 6, t + 5] ∈ e2_Jc ∧ [b + 3] ∈ e2_Jc := by
  rcases hb with rfl | rfl <;> rcases ht with rfl | rfl <;> decide
theorem hd_q8 {x : Int32} (h1 : 2147483647 ≤ ev_key x) (h2 : ev_key x ≤ 2147483655) : rd_q8 x := by
  by_cases h : ev_key x = 2147483647
  · exact Or.inl (ev_key_eqI.mpr (by rw [h, hd_m1]))
  · obtain ⟨d, hd, rfl⟩ := ex_nat (x := x) (n := 7) (by omega) (by omega) (by omega)
    exact Or.inr ⟨d, by omega, rfl⟩
set_option maxHeartbeats 4000000 in
theorem hd_read (hen : en_ok) {l : Launch} {b t : Nat} {E : e2_E} {f q : ev_H} {vf : ev_V} (hE : E[1]? = some (2147483652, 2147483668, 1, 0)) (hF : hd_F b t f vf)
    (hv : (vf = (0, 1, 0) ∧ ev_hg f (b + 4) = hd_r 21 0 4294967295 ∧ ev_hg f (b + 6) = hd_r 189 2147483647 2147483655) ∨ (vf = (11, 2147483648, 2147483649) ∧ ev_hg f (b + 4) = hd_w 21 0 4294967295 ∧ ev_hg f (b + 6) = hd_w 189 2147483647 2147483655))
    (q1 : ev_hg q b = (5, hd_o b t (0, 0, 0))) (q4 : ev_hg q (b + 4) = hd_w 21 0 4294967295) (q6 : ev_hg q (b + 6) = hd_w 189 2147483647 2147483655) (qk : ∀ k, k < 133 → k ≠ b → k ≠ b + 4 → k ≠ b + 6 → ev_hg q k = ev_hg f k)
    (hok : e2_okSB E.length [(2, b, 0), (11, 0, 4294967295)] f [((11, 0, 4294967295), q)] = true) (hres : e2_allR [((11, 0, 4294967295), q)] (fun x => e2_fin [((11, 0, 4294967295), q)] x.1 E x.2) = true) : e2_smOk l 4 (88, [(2, b, 0), (11, 0, 4294967295)], E, f, [((11, 0, 4294967295), q)]) := by
  refine sy_smOk (nL := 4) (D := 3) (C := evd_88) (X := e2x_88) [] hen ei_88 ex2_88 (Nat.le_of_ble_eq_true rfl) hok hres fun d hd Dg cA A ads r ws H ls hsat hwo hfr => ?_
  have hFF := hF
  obtain ⟨hb, ht, -, -, c8, -, -, -, -, c3, c5, c7, c8', c9, c10, c11, -⟩ := hFF
  obtain ⟨lk, fr, k0, hk0, x1, f0, f1⟩ := hd_x1 hF (by rcases hv with ⟨h, -⟩ | ⟨h, -⟩; exact Or.inr (Or.inl h); exact Or.inr (Or.inr h)) hwo
  obtain ⟨s, n, L, sh, nb, na, w, hs1, hr1, hL, hT⟩ := hd_xT hF hE hsat hwo
  obtain ⟨m, m1, m2, m3⟩ := ex_57 hwo (k := b + 3) (by omega) c3
  obtain ⟨o, o1, o3⟩ : ∃ o, e2_ct ws (b + 4) o ∧ ev_hg (ex_all ws f) (b + 4) = (50, sy_R 21 o) := by
    rcases hv with ⟨-, h, -⟩ | ⟨-, h, -⟩
    · obtain ⟨o, z1, -, z3⟩ := ex_54 hwo (k := b + 4) (by omega) h
      exact ⟨o, z1, z3⟩
    · obtain ⟨o, z1, -, z3⟩ := ex_57 hwo (k := b + 4) (by omega) h
      exact ⟨o, z1, z3⟩
  obtain ⟨p, p1, p2, p3⟩ : ∃ p, e2_ct ws (b + 6) p ∧ rd_P p ∧ ev_hg (ex_all ws f) (b + 6) = (50, sy_R 189 p) := by
    rcases hv with ⟨-, -, h⟩ | ⟨-, -, h⟩
    · obtain ⟨p, z1, z2, z3⟩ := ex_54 hwo (k := b + 6) (by omega) h
      exact ⟨p, z1, fun j hj => hd_q8 (z2 j hj).1 (z2 j hj).2, z3⟩
    · obtain ⟨p, z1, z2, z3⟩ := ex_57 hwo (k := b + 6) (by omega) h
      exact ⟨p, z1, fun j hj => hd_q8 (z2 j hj).1 (z2 j hj).2, z3⟩
  obtain ⟨r5, -, -, g5⟩ := ex_54 hwo (k := b + 5) (by omega) c5
  obtain ⟨r7, -, -, g7⟩ := ex_54 hwo (k := b + 7) (by omega) c7
  obtain ⟨r8, -, -, g8⟩ := ex_54 hwo (k := b + 8) (by omega) c8'
  obtain ⟨r9, -, -, g9⟩ := ex_54 hwo (k := b + 9) (by omega) c9
  obtain ⟨r10, -, b10, g10⟩ := ex_54 hwo (k := b + 10) (by omega) c10
  obtain ⟨r11, -, b11, g11⟩ := ex_54 hwo (k := b + 11) (by omega) c11
  have hB10 : rd_B 20 r10 := fun j hj => by
    obtain ⟨d, h1, h2⟩ := ex_nat (n := 19) (b10 j hj).1 (b10 j hj).2 (by omega)
    exact ⟨d, by omega, h2⟩
  have hB11 : rd_B 8 r11 := fun j hj => by
    obtain ⟨d, h1, h2⟩ := ex_nat (n := 7) (b11 j hj).1 (b11 j hj).2 (by omega)
    exact ⟨d, by omega, h2⟩
  have hS : rd_S b t (ex_all ws f) (ex_all ws f) lk fr (ev_i k0) m o p := ⟨fun _ _ _ _ => rfl, x1, m3, o3, p3, ⟨_, g5⟩, ⟨_, g7⟩, ⟨_, g8⟩, ⟨_, g9⟩, ⟨_, hB10, g10⟩, ⟨_, hB11, g11⟩⟩
  have hM : rd_M m := fun j hj => by
    obtain ⟨d, h1, h2⟩ := ex_nat (n := 20) (m2 j hj).1 (m2 j hj).2 (by omega)
    exact ⟨d, by omega, h2⟩
  have hJJ := hwo.2.2.2.2.2
  have hsz : ∀ s', r[1]? = some (2147483648 + s') → s' = s := fun s' h => by
    rw [hr1] at h
    have := Option.some.inj h
    omega
  have hms : m s = ev_i s := by
    obtain ⟨s', fs, j1, j2, j3, j4⟩ := hJJ _ (hd_tp hb ht).2 ⟨by show (ev_hg f (b + 3)).1 = 57; rw [c3], fun k hk => by rw [List.mem_singleton.mp hk, c3]; exact Or.inl rfl⟩
    cases hsz s' j1
    have := j3 0 (show 0 < 1 by decide)
    rw [← (show e2_ct ws (b + 3) (fs 0) from this).same m1]
    exact j4.2
  have hmode : fr ≠ 0 ∨ rd_J m o p L s 0 := by
    rcases hv with ⟨h, -, -⟩ | ⟨-, h4, h6⟩
    · exact Or.inl (f1 h)
    · refine Or.inr ?_
      obtain ⟨s', fs, j1, j2, j3, j4⟩ := hJJ _ (hd_tp hb ht).1 ⟨by show (ev_hg f (b + 3)).1 = 57; rw [c3], fun k hk => by
        simp only [List.mem_cons, List.not_mem_nil, or_false] at hk
        rcases hk with rfl | rfl | rfl | rfl
        · rw [c3]; exact Or.inl rfl
        · rw [h4]; exact Or.inl rfl
        · rw [h6]; exact Or.inl rfl
        · rw [c8]; exact Or.inr rfl⟩
      cases hsz s' j1
      have e0 := (show e2_ct ws (b + 3) (fs 0) from j3 0 (by show 0 < 4; decide)).same m1
      have e1 := (show e2_ct ws (b + 4) (fs 1) from j3 1 (by show 1 < 4; decide)).same o1
      have e2 := (show e2_ct ws (b + 6) (fs 2) from j3 2 (by show 2 < 4; decide)).same p1
      have e3 := (show e2_ct ws (t + 5) (fs 3) from j3 3 (by show 3 < 4; decide)).same hL
      have := j4.1 rfl
      rw [e0, e1, e2, e3] at this
      exact hd_J1 this
  obtain ⟨row, -, hfr'⟩ := ex_fr (i := 1) hfr rfl (Or.inr (Or.inr (Or.inl rfl)))
  refine ⟨_, _, fun v E' h' => sy_K ((∃ x, v = sy_I x) ∧ E' = E ∧ (∃ m' o' p', rd_S b t (ex_all ws f) h' row 0 (ev_i k0) m' o' p' ∧ rd_M m' ∧ rd_P p' ∧ m' s = ev_i s ∧ rd_J m' o' p' L s 0)), hfr', ex_wo hwo, fun G hG => rd_read hen hT hS hM p2 hms hs1 hmode d _ G hd (fun v E' h' hp => sy_K_i hp) hG, fun v E' h' r' ws' H' hF' hp hw' => ?_⟩
  obtain ⟨⟨x, rfl⟩, -, m', o', p', hS', hM', hP', hms', hJ'⟩ := sy_K_e hF'
  refine ⟨_, List.mem_cons_self, hd_end hF hwo hp hw' hr1 hT hk0 hS' hM' hP' hms' hJ' (e2_rel.ex ads r' 0 0) q1 q4 q6 qk, fun z => (by cases z), fun _ => ⟨by show (11 : Nat) ≠ 9; decide, by show (11 : Nat) ≠ 7; decide⟩, fun w hw => ⟨x, ?_, (hd_top x).1, (hd_top x).2⟩⟩
  rw [show w = .int (ev_i (ev_u x)) from hw, ev_iu]
set_option maxHeartbeats 4000000 in
theorem hd_follow (hen : en_ok) {l : Launch} {b t : Nat} {E : e2_E} {f : ev_H} {vf : ev_V} (hE : E[1]? = some (2147483652, 2147483668, 1, 0)) (hF : hd_F b t f vf) (hv : vf = (0, 0, 0) ∨ vf = (11, 2147483648, 2147483649)) (h4 : ev_hg f (b + 4) = hd_w 21 0 4294967295) (h6 : ev_hg f (b + 6) = hd_w 189 2147483647 2147483655)
    (hok : e2_okSB E.length [(2, b, 0)] f [((11, 2147483648, 2147483649), f)] = true) (hres : e2_allR [((11, 2147483648, 2147483649), f)] (fun x => e2_fin [((11, 2147483648, 2147483649), f)] x.1 E x.2) = true) : e2_smOk l 2 (94, [(2, b, 0)], E, f, [((11, 2147483648, 2147483649), f)]) := by
  refine sy_smOk (nL := 5) (D := 1) (C := evd_94) (X := e2x_94) [] hen ei_94 ex2_94 (Nat.le_of_ble_eq_true rfl) hok hres fun d hd Dg cA A ads r ws H ls hsat hwo hfr => ?_
  have hFF := hF
  obtain ⟨hb, ht, c1, -, c8, -, -, -, -, c3, c5, c7, c8', c9, c10, c11, -⟩ := hFF
  obtain ⟨lk, fr, k0, hk0, x1, f0, f1⟩ := hd_x1 hF (by rcases hv with h | h; exact Or.inl h; exact Or.inr (Or.inr h)) hwo
  obtain ⟨s, n, L, sh, nb, na, w, hs1, hr1, hL, hT⟩ := hd_xT hF hE hsat hwo
  obtain ⟨m, m1, m2, m3⟩ := ex_57 hwo (k := b + 3) (by omega) c3
  obtain ⟨o, o1, -, o3⟩ := ex_57 hwo (k := b + 4) (by omega) h4
  obtain ⟨p, p1, p2, p3⟩ := ex_57 hwo (k := b + 6) (by omega) h6
  have hP : rd_P p := fun j hj => hd_q8 (p2 j hj).1 (p2 j hj).2
  obtain ⟨r5, -, -, g5⟩ := ex_54 hwo (k := b + 5) (by omega) c5
  obtain ⟨r7, -, -, g7⟩ := ex_54 hwo (k := b + 7) (by omega) c7
  obtain ⟨r8, -, -, g8⟩ := ex_54 hwo (k := b + 8) (by omega) c8'
  obtain ⟨r9, -, -, g9⟩ := ex_54 hwo (k := b + 9) (by omega) c9
  obtain ⟨r10, -, b10, g10⟩ := ex_54 hwo (k := b + 10) (by omega) c10
  obtain ⟨r11, -, b11, g11⟩ := ex_54 hwo (k := b + 11) (by omega) c11
  have hB10 : rd_B 20 r10 := fun j hj => by
    obtain ⟨d, h1, h2⟩ := ex_nat (n := 19) (b10 j hj).1 (b10 j hj).2 (by omega)
    exact ⟨d, by omega, h2⟩
  have hB11 : rd_B 8 r11 := fun j hj => by
    obtain ⟨d, h1, h2⟩ := ex_nat (n := 7) (b11 j hj).1 (b11 j hj).2 (by omega)
    exact ⟨d, by omega, h2⟩
  have hS : rd_S b t (ex_all ws f) (ex_all ws f) lk fr (ev_i k0) m o p := ⟨fun _ _ _ _ => rfl, x1, m3, o3, p3, ⟨_, g5⟩, ⟨_, g7⟩, ⟨_, g8⟩, ⟨_, g9⟩, ⟨_, hB10, g10⟩, ⟨_, hB11, g11⟩⟩
  have hM : rd_M m := fun j hj => by
    obtain ⟨d, h1, h2⟩ := ex_nat (n := 20) (m2 j hj).1 (m2 j hj).2 (by omega)
    exact ⟨d, by omega, h2⟩
  have hW : rd_W b (ex_all ws f) := ⟨r10, r11, g10, g11, hB10, hB11⟩
  have hJJ := hwo.2.2.2.2.2
  obtain ⟨s', fs, j1, j2, j3, j4⟩ := hJJ _ (hd_tp hb ht).1 ⟨by show (ev_hg f (b + 3)).1 = 57; rw [c3], fun k hk => by
    simp only [List.mem_cons, List.not_mem_nil, or_false] at hk
    rcases hk with rfl | rfl | rfl | rfl
    · rw [c3]; exact Or.inl rfl
    · rw [h4]; exact Or.inl rfl
    · rw [h6]; exact Or.inl rfl
    · rw [c8]; exact Or.inr rfl⟩
  have hss : s' = s := by
    rw [hr1] at j1
    have := Option.some.inj j1
    omega
  subst hss
  have e0 := (show e2_ct ws (b + 3) (fs 0) from j3 0 (by show 0 < 4; decide)).same m1
  have e1 := (show e2_ct ws (b + 4) (fs 1) from j3 1 (by show 1 < 4; decide)).same o1
  have e2 := (show e2_ct ws (b + 6) (fs 2) from j3 2 (by show 2 < 4; decide)).same p1
  have e3 := (show e2_ct ws (t + 5) (fs 3) from j3 3 (by show 3 < 4; decide)).same hL
  obtain ⟨j5, j6⟩ := j4
  have j5 := j5 rfl
  rw [e0, e1, e2, e3] at j5
  rw [e0] at j6
  have hJ := hd_J1 j5
  refine ⟨_, _, fun v E' h' => sy_K ((v = sy_I 0 ∨ v = sy_I 1) ∧ E' = E ∧ (∃ k, k ≤ 20 ∧ rd_S b t (ex_all ws f) h' lk fr (ev_i k) m o p ∧ rd_W b h')), hfr, ex_wo hwo, fun G hG => rd_follow hen hT hS hW hM j6 hJ d _ G hd (fun v E' h' hp => sy_K_i hp) hG, fun v E' h' r' ws' H' hF' hp hw' => ?_⟩
  obtain ⟨hx, -, k, hk, hS', -⟩ := sy_K_e hF'
  refine ⟨_, List.mem_cons_self, hd_end hF hwo hp hw' hr1 hT hk hS' hM hP j6 hJ (f0.mono hp) c1 h4 h6 (fun _ _ _ _ _ => rfl), fun z => ?_, fun _ => ⟨by show (11 : Nat) ≠ 9; decide, by show (11 : Nat) ≠ 7; decide⟩, fun w hw => ?_⟩
  · rcases hx with rfl | rfl <;> cases z
  · rcases hx with rfl | rfl
    · exact ⟨0, by rw [show w = .int (ev_i (ev_u 0)) from hw, ev_iu], (show 2147483648 ≤ ev_key 0 by decide +kernel), (show ev_key 0 ≤ 2147483649 by decide +kernel)⟩
    · exact ⟨1, by rw [show w = .int (ev_i (ev_u 1)) from hw, ev_iu], (show 2147483648 ≤ ev_key 1 by decide +kernel), (show ev_key 1 ≤ 2147483649 by decide +kernel)⟩

