/-! exchange and keepAct as summaries -/
def rf_l12 : List ev_V := List.replicate 25 (11, 0, 4294967295) ++ [(11, 2147483648, 2147484647)]
theorem rf_l12_get {j : Nat} {v : ev_V} (h : rf_l12[j]? = some v) : (j < 25 ∧ v = (11, 0, 4294967295)) ∨ (j = 25 ∧ v = (11, 2147483648, 2147484647)) := by
  unfold rf_l12 at h
  by_cases hj : j < 25
  · rw [List.getElem?_append_left (by simpa using hj), List.getElem?_replicate, if_pos hj] at h
    exact Or.inl ⟨hj, (Option.some.inj h).symm⟩
  · rw [List.getElem?_append_right (by simp; omega)] at h
    simp only [List.length_replicate] at h
    by_cases h25 : j = 25
    · subst h25
      exact Or.inr ⟨rfl, (Option.some.inj h).symm⟩
    · rw [List.getElem?_eq_none (by simp; omega)] at h
      cases h
/-- what both find, as it is known -/
def hd_A (f : ev_H) (lo : List ev_V) : Prop :=
  ev_hg f 83 = (10, lo) ∧ lo[7]? = some (2, 118, 0) ∧ lo[5]? = some (2, 112, 0) ∧ lo[6]? = some (1, 2, 4294967296) ∧ 34 < lo.length ∧ (ev_hg f 118).1 = 66 ∧ ev_hg f 112 = (50, rf_l12) ∧ (ev_hg f 50).1 ≠ 57 ∧ (ev_hg f 68).1 ≠ 57
section HdA
variable {D : va_G} {cA : e2_cA} {A : Nat → Prop} {ads r r' : List Nat} {ws ws' : va_W} {f h' : ev_H} {H H' : Heap} {lo : List ev_V}
theorem hd_Ax (hA : hd_A f lo) {E : e2_E} (hE : E[2]? = some (2147483648, 2147483688, 2, 0)) (hs : e2_sat r E) (hw : e2_wo D cA A ads r ws f H) : ∃ (hx : ev_H) (vs : List Value) (g w : Nat → Int32) (a : Nat), a ≤ 40 ∧ vs.length = lo.length ∧ (∀ (j : Nat) (v : ev_V), lo[j]? = some v → ∃ w, vs[j]? = some w ∧ e2_rel ads r v w) ∧ (List.zipWith ex_v lo vs)[6]? = some (sy_I (ev_i a)) ∧ rf_K (ex_all ws f) hx (List.zipWith ex_v lo vs) g w ∧ e2_wo D cA A ads r ws hx H := by
  obtain ⟨c83, b7, b5, b6, b34, c118, c112, -, -⟩ := hA
  have hokA := hw.2.1.2
  obtain ⟨g, hg, w1⟩ := ex_opq (ex_wo hw) (k := 118) (t := 66) (by omega) (by rw [ex_op hw (by omega) (by omega)]; exact c118) (by omega) (by omega)
  rw [show rf_n 66 = 1066 from rfl] at hg w1
  obtain ⟨w, -, hw2, g112⟩ := ex_50 hw (k := 112) (by omega) (Or.inl rfl) c112
  rw [show rf_l12.length = 26 from rfl] at g112
  obtain ⟨vs, l1, l2, l3⟩ := ex_obj hw (k := 83) (by omega) (by omega) c83
  obtain ⟨u6, e6, q6⟩ := l2 6 _ b6
  obtain ⟨x, k, rfl, hk, hxk⟩ := q6
  obtain ⟨kk, kb, y1, y2, y3, -, -⟩ := hs.2 2 _ hE
  have hk : r[2]? = some k := hk
  rw [hk] at y1
  cases y1
  have hxk : ev_key x + 4294967296 = k + 4294967296 := hxk
  have y2 : 2147483648 ≤ k := y2
  have y3 : k ≤ 2147483688 := y3
  have x1 : 2147483648 ≤ ev_key x := by omega
  have x2 : ev_key x ≤ 2147483688 := by omega
  obtain ⟨a, ha, rfl⟩ := ex_nat (n := 40) x1 x2 (by omega)
  obtain ⟨u7, e7, q7⟩ := l2 7 _ b7
  obtain ⟨u5, e5, q5⟩ := l2 5 _ b5
  refine ⟨_, vs, g, w, a, ha, l1, l2, hd_z b6 e6, ⟨?_, ?_, ?_, rd_e (by omega), ?_, (hokA.2.2 g).mp hg, ?_, fun k hk h1 h2 h3 => rd_g (by omega) hk h2 rfl⟩, w1⟩
  · exact rd_g (by omega) (by omega) (by omega) l3
  · rw [hd_z b7 e7, hd_ref q7]
  · rw [hd_z b5 e5, hd_ref q5]
  · exact rd_g (by omega) (by omega) (by omega) g112
  · obtain ⟨y, hy, y1, y2⟩ := hd_11 (hw2 25 (11, 2147483648, 2147484647) rfl)
    injection hy with hy
    unfold rf_all
    rw [hy]
    exact ⟨y1, y2⟩
theorem hd_Ae (hA : hd_A f lo) (hw : e2_wo D cA A ads r ws f H) (hp : ∃ x, r' = r ++ x) (hw' : e2_wo D cA A ads r' ws' h' H') {lo' loq : List ev_V} {q : ev_H} (q83 : ev_hg q 83 = (10, loq)) (qk : ∀ k, k < 133 → k ≠ 83 → ev_hg q k = ev_hg f k) {g w : Nat → Int32} (hK : rf_K (ex_all ws f) h' lo' g w) (hl : lo'.length = loq.length) (hz : ∀ (j : Nat) (v : ev_V), loq[j]? = some v → ∃ u, lo'[j]? = some u ∧ ∀ w, e2_rel ads r' u w → e2_rel ads r' v w) : e2_wo D cA A ads r' ws' q H' := by
  obtain ⟨c83, b7, b5, b6, b34, c118, c112, n50, n68⟩ := hA
  obtain ⟨k1, k2, k3, k4, k5, k6, k7, k8⟩ := hK
  have hokA := hw.2.1.2
  refine ex_back hw hp hw' (by rw [qk 50 (by omega) (by omega)]; exact n50) (by rw [qk 68 (by omega) (by omega)]; exact n68) fun k hk => ?_
  by_cases h83 : k = 83
  · subst h83
    refine Or.inr fun e' he' => ?_
    rw [k1] at he'
    rw [q83]
    exact ob_le (show (10 : Nat) < 50 by decide) hl hz he'
  by_cases h118 : k = 118
  · subst h118
    refine Or.inr fun e' he' => ?_
    rw [k4] at he'
    dsimp only at he'
    rw [qk 118 hk h83, c118]
    exact ex_opq_bk (t := 66) (n := 1066) (g := g) hokA (by omega) (by omega) rfl ((hokA.2.2 g).mpr k6) he'
  by_cases h112 : k = 112
  · subst h112
    refine Or.inr fun e' he' => ?_
    rw [k5] at he'
    dsimp only at he'
    rw [qk 112 hk h83, c112]
    obtain ⟨g', g1, g2⟩ := ex_R_e (i := 0) (by omega) he'
    refine Or.inr (Or.inl ⟨by decide, by decide, g', g1, fun j v hj => ?_⟩)
    rcases rf_l12_get hj with ⟨hj25, rfl⟩ | ⟨rfl, rfl⟩
    · rw [g2 j (by omega)]
      exact ⟨_, rfl, (hd_top _).1, (hd_top _).2⟩
    · rw [g2 25 (by omega)]
      exact ⟨_, rfl, k7.1, k7.2⟩
  · exact Or.inl ⟨k8 k hk h83 h118 h112, qk k hk h83⟩
end HdA
theorem hd_keep (hen : en_ok) {l : Launch} {E : e2_E} {f q : ev_H} {lo : List ev_V} (hE : E[2]? = some (2147483648, 2147483688, 2, 0)) (hA : hd_A f lo) (q83 : ev_hg q 83 = (10, (lo.set 6 (11, 2147483648, 2147483688)).set 34 (0, 0, 0))) (qk : ∀ k, k < 133 → k ≠ 83 → ev_hg q k = ev_hg f k) (hok : e2_okSB E.length [(2, 83, 0)] f [((9, 0, 0), q)] = true) (hres : e2_allR [((9, 0, 0), q)] (fun x => e2_fin [((9, 0, 0), q)] x.1 E x.2) = true) : e2_smOk l 1 (241, [(2, 83, 0)], E, f, [((9, 0, 0), q)]) := by
  refine sy_smOk (nL := 2) (D := 0) (C := evd_241) (X := hx_241) [] hen ei_241 hxe_241 (Nat.le_of_ble_eq_true rfl) hok hres fun d hd Dg cA A ads r ws H ls hsat hwo hfr => ?_
  obtain ⟨hx, vs, g, w, a, ha, l1, l2, h6, hK, hwx⟩ := hd_Ax hA hE hsat hwo
  have l34 := hA.2.2.2.2.1
  have hzl : (List.zipWith ex_v lo vs).length = lo.length := by rw [List.length_zipWith]; omega
  have h34 : 34 < (List.zipWith ex_v lo vs).length := by rw [hzl]; exact l34
  refine ⟨_, hx, fun v E' h' => sy_K (v = (9, 0, 0) ∧ ∃ lo' g' w', rf_K (ex_all ws f) h' lo' g' w' ∧ lo'.length = (List.zipWith ex_v lo vs).length ∧ (∃ a', a' ≤ 40 ∧ lo'[6]? = some (sy_I (ev_i a'))) ∧ lo'[34]? = some (sy_I 0) ∧ ∀ j, j ≠ 6 → j ≠ 34 → lo'[j]? = (List.zipWith ex_v lo vs)[j]?), hfr, hwx, fun G hG => rf_keepAct hK h6 ha h34 d _ G (fun v E' h' hp => sy_K_i hp) hG, fun v E' h' r' ws' H' hF' hp hw' => ?_⟩
  obtain ⟨rfl, lo', g', w', hK', hl', ⟨a', ha', h6'⟩, h34', ho⟩ := sy_K_e hF'
  refine ⟨_, List.mem_cons_self, hd_Ae hA hwo hp hw' q83 qk hK' (by simp only [List.length_set]; exact hl'.trans hzl) (fun j v hv => ?_), fun _ => rfl, fun z => absurd rfl z, fun w hw => hw⟩
  rw [List.getElem?_set] at hv
  by_cases j34 : 34 = j
  · subst j34
    rw [if_pos rfl, if_pos (by rw [List.length_set]; exact l34)] at hv
    cases hv
    exact ⟨_, h34', fun w hw => hw⟩
  rw [if_neg j34, List.getElem?_set] at hv
  by_cases j6 : 6 = j
  · subst j6
    rw [if_pos rfl, if_pos (by omega)] at hv
    cases hv
    exact ⟨_, h6', ob_11 (by rw [sy_k (by omega)]; omega)⟩
  rw [if_neg j6] at hv
  rw [ho j (fun z => j6 z.symm) (fun z => j34 z.symm)]
  obtain ⟨w, w1, w2⟩ := l2 j v hv
  exact ⟨_, hd_z hv w1, fun w' hw' => ex_v_bk w2 hp hw'⟩
