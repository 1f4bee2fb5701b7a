/-! NAMES: from the look whether a word is known to its index, in one step -/
noncomputable def nm_okB (t nmf cntf a n : Nat) (al : List ev_V) (E : e2_E) (h : ev_H) : Bool :=
  e2_get al 0 fun v0 => e2_if (Nat.beq v0.1 2 && Nat.beq v0.2.1 33) <|
  ev_tget 8 h 33 fun c3 => e2_if (Nat.beq c3.1 3) <| e2_if (Nat.blt 7 c3.2.length) <| e2_get c3.2 0 fun v => e2_if (Nat.beq v.1 2 && Nat.beq v.2.1 34) <| e2_get c3.2 1 fun v => e2_if (Nat.beq v.1 2 && Nat.beq v.2.1 t) <|
  ev_tget 8 h 34 fun c4 => e2_if (Nat.beq c4.1 7) <| e2_get c4.2 3 fun v => e2_if (e2_isI v.1) <| e2_get c4.2 4 fun v => e2_if (e2_isI v.1) <| e2_get c4.2 6 fun v => e2_if (e2_isL v.1) <|
  ev_tget 8 h t fun co => e2_if (Nat.beq co.1 8) <| e2_get co.2 nmf fun v => e2_if (Nat.beq v.1 2 && Nat.beq v.2.1 a) <| e2_get co.2 cntf fun v => e2_rng E v fun x y => e2_if (Nat.ble 2147483648 x && Nat.ble y 2147483656) <|
  ev_tget 8 h a fun cn => e2_if (Nat.beq cn.1 53) <| e2_1 cn.2 fun v r => e2_0 r <| e2_if (Nat.beq v.2.1 n) <|
  ev_tget 8 h 50 fun c => e2_if (!(Nat.beq c.1 57)) <| ev_tget 8 h 68 fun c => e2_if (!(Nat.beq c.1 57)) true
def nm_ok (t nmf cntf a n : Nat) (al : List ev_V) (E : e2_E) (h : ev_H) : Prop :=
  (∃ b, al[0]? = some (2, 33, b)) ∧ (∃ lp, ev_hg h 33 = (3, lp) ∧ 7 < lp.length ∧ (∃ b, lp[0]? = some (2, 34, b)) ∧ ∃ b, lp[1]? = some (2, t, b)) ∧
  (∃ lt, ev_hg h 34 = (7, lt) ∧ (∃ v, lt[3]? = some v ∧ e2_isI v.1 = true) ∧ (∃ v, lt[4]? = some v ∧ e2_isI v.1 = true) ∧ ∃ v, lt[6]? = some v ∧ e2_isL v.1 = true) ∧
  (∃ lo, ev_hg h t = (8, lo) ∧ (∃ b, lo[nmf]? = some (2, a, b)) ∧ ∃ v, lo[cntf]? = some v ∧ e2_isI v.1 = true ∧ ∀ (ads r : List Nat) (X : Int32), e2_sat r E → e2_rel ads r v (.int X) → 2147483648 ≤ ev_key X ∧ ev_key X ≤ 2147483656) ∧
  (∃ b, ev_hg h a = (53, [(b, n)].map fun q => (0, q.2, q.1)) ∨ True) ∧ (ev_hg h a).1 = 53 ∧ (ev_hg h 50).1 ≠ 57 ∧ (ev_hg h 68).1 ≠ 57 ∧ ∃ v, (ev_hg h a).2 = [v] ∧ v.2.1 = n
theorem nm_2 {v : ev_V} {k : Nat} (h : (Nat.beq v.1 2 && Nat.beq v.2.1 k) = true) : ∃ b, v = (2, k, b) := by
  simp only [Bool.and_eq_true] at h
  obtain ⟨t, x, b⟩ := v
  exact ⟨b, by rw [show t = 2 from Nat.eq_of_beq_eq_true h.1, show x = k from Nat.eq_of_beq_eq_true h.2]⟩
theorem nm_c {c : ev_C} {t : Nat} (h : Nat.beq c.1 t = true) : c = (t, c.2) := by
  obtain ⟨x, l⟩ := c
  rw [show x = t from Nat.eq_of_beq_eq_true h]
theorem nm_okB_ok {t nmf cntf a n : Nat} {al : List ev_V} {E : e2_E} {h : ev_H} (hh : nm_okB t nmf cntf a n al E h = true) : nm_ok t nmf cntf a n al E h := by
  unfold nm_okB at hh
  obtain ⟨v0, g0, hh⟩ := e2_get_t hh
  obtain ⟨k0, hh⟩ := e2_if_t hh
  rw [ev_tget_k] at hh
  obtain ⟨k1, hh⟩ := e2_if_t hh
  obtain ⟨k2, hh⟩ := e2_if_t hh
  obtain ⟨v1, g1, hh⟩ := e2_get_t hh
  obtain ⟨k3, hh⟩ := e2_if_t hh
  obtain ⟨v2, g2, hh⟩ := e2_get_t hh
  obtain ⟨k4, hh⟩ := e2_if_t hh
  rw [ev_tget_k] at hh
  obtain ⟨k5, hh⟩ := e2_if_t hh
  obtain ⟨v3, g3, hh⟩ := e2_get_t hh
  obtain ⟨k6, hh⟩ := e2_if_t hh
  obtain ⟨v4, g4, hh⟩ := e2_get_t hh
  obtain ⟨k7, hh⟩ := e2_if_t hh
  obtain ⟨v5, g5, hh⟩ := e2_get_t hh
  obtain ⟨k8, hh⟩ := e2_if_t hh
  rw [ev_tget_k] at hh
  obtain ⟨k9, hh⟩ := e2_if_t hh
  obtain ⟨v6, g6, hh⟩ := e2_get_t hh
  obtain ⟨k10, hh⟩ := e2_if_t hh
  obtain ⟨v7, g7, hh⟩ := e2_get_t hh
  obtain ⟨k11, x, y, hh, hb⟩ := e2_rng_t hh
  obtain ⟨k12, hh⟩ := e2_if_t hh
  rw [ev_tget_k] at hh
  obtain ⟨k13, hh⟩ := e2_if_t hh
  obtain ⟨v8, r8, g8, hh⟩ := e2_1_t hh
  obtain ⟨rfl, hh⟩ := e2_0_t hh
  obtain ⟨k14, hh⟩ := e2_if_t hh
  rw [ev_tget_k] at hh
  obtain ⟨k15, hh⟩ := e2_if_t hh
  rw [ev_tget_k] at hh
  obtain ⟨k16, -⟩ := e2_if_t hh
  obtain ⟨b0, rfl⟩ := nm_2 k0
  obtain ⟨b1, rfl⟩ := nm_2 k3
  obtain ⟨b2, rfl⟩ := nm_2 k4
  obtain ⟨b6, rfl⟩ := nm_2 k10
  simp only [Bool.and_eq_true] at k12
  have n57 : ∀ c : ev_C, (!(Nat.beq c.1 57)) = true → c.1 ≠ 57 := fun c hc z => by rw [z] at hc; exact absurd hc (by decide)
  refine ⟨⟨b0, g0⟩, ⟨_, nm_c k1, Nat.le_of_ble_eq_true k2, ⟨b1, g1⟩, b2, g2⟩, ⟨_, nm_c k5, ⟨v3, g3, k6⟩, ⟨v4, g4, k7⟩, v5, g5, k8⟩, ⟨_, nm_c k9, ⟨b6, g6⟩, v7, g7, k11, fun ads r X h1 h2 => ?_⟩, ⟨0, Or.inr trivial⟩, Nat.eq_of_beq_eq_true k13, n57 _ k15, n57 _ k16, v8, g8, Nat.eq_of_beq_eq_true k14⟩
  have := hb ads r X h1 h2
  have e1 := Nat.le_of_ble_eq_true k12.1
  have e2 := Nat.le_of_ble_eq_true k12.2
  omega
noncomputable def nm_S (run : Nat → e2_S) (t nmf cntf a n pcf pe j : Nat) : e2_S := fun al st E h => e2_0 st (e2_if (nm_okB t nmf cntf a n al E h) (e2_if (ev_tget 8 h 33 fun c => ev_tset 8 h 33 (3, (c.2.set 6 (11, 0, 4294967295)).set 7 (11, 0, 4294967295)) fun h' => run pcf al [] E h') (e2_nl al j (e2_setK al j (11, 2147483648, 2147483647 + n) fun al' => run pe al' [] E h))))
section NmG
variable {p : Program} {l : Launch} {e : Env} {R : Room} {s : State} {m : MethodId} {args : Array Value} {below : List Frame} {meth : Method} {c : Code} {Q : State → Prop} {D : va_G} {cA : e2_cA} {A : Nat → Prop} {ads r0 r : List Nat} {d : Nat} {F : e2_F} {M : ev_M} {al al' st : List ev_V} {E : e2_E} {h h1 h2 : ev_H}
theorem gd_le {pc : Nat} (hg : e2_gdM M p l e R s m args below meth c Q D cA A ads r pc al' st E h2) (hh : ∀ r' ws' H', (∃ x, r' = r ++ x) → e2_wo D cA A ads r' ws' h1 H' → e2_wo D cA A ads r' ws' h2 H') (hf : ∀ r' ls, e2_fr ads r' M.2.2.1 al ls → e2_fr ads r' M.2.2.1 al' ls) : e2_gdM M p l e R s m args below meth c Q D cA A ads r pc al st E h1 :=
  fun r' ws' H' locs ls vs hp hs hwo hS hfr hst => hg r' ws' H' locs ls vs hp hs (hh r' ws' H' hp hwo) hS (hf r' ls hfr) hst
/-- a world that the exact heap holds is one that the heap holds, where no row of ways stands read-only -/
theorem ex_back {ws ws' : va_W} {r' : List Nat} {H H' : Heap} {q : ev_H} (hw : e2_wo D cA A ads r ws h H) (hp : ∃ x, r' = r ++ x) (hw' : e2_wo D cA A ads r' ws' h1 H') (n1 : (ev_hg q 50).1 ≠ 57) (n2 : (ev_hg q 68).1 ≠ 57)
    (hk : ∀ k, k < 133 → (ev_hg h1 k = ev_hg (ex_all ws h) k ∧ ev_hg q k = ev_hg h k) ∨ ∀ e', e2_relC cA ads r' (ev_hg h1 k).1 (ev_hg h1 k).2 e' → e2_relC cA ads r' (ev_hg q k).1 (ev_hg q k).2 e') : e2_wo D cA A ads r' ws' q H' := by
  obtain ⟨g1, g2, g3, g4, g5, g6⟩ := hw'
  refine ⟨g1, g2, fun k hk' => ?_, g4, g5, fun cs hcs hgd => ?_⟩
  · obtain ⟨a', e', y1, y2⟩ := g3 k hk'
    refine ⟨a', e', y1, ?_⟩
    rcases hk k hk' with ⟨e1, e2⟩ | e1
    · obtain ⟨a, e, z1, z2⟩ := hw.2.2.1 k hk'
      rw [e1, ex_get hk' z1] at y2
      rw [e2]
      exact ex_bk z2 hp y2
    · exact e1 e' y2
  · exfalso
    have h0 := hgd.1
    simp only [e2_Jc, List.mem_cons, List.not_mem_nil, or_false] at hcs
    rcases hcs with rfl | rfl | rfl | rfl | rfl | rfl <;> first | exact n1 h0 | exact n2 h0
theorem fr_le {r' : List Nat} {nL j lo hi : Nat} {x : Int32} {ls : Array Slot} (hx : lo ≤ ev_key x ∧ ev_key x ≤ hi) (hj : j < al.length) (hf : e2_fr ads r' nL (al.set j (sy_I x)) ls) : e2_fr ads r' nL (al.set j (11, lo, hi)) ls := by
  obtain ⟨f1, lv, f2, f3⟩ := hf
  refine ⟨by rw [List.length_set] at f1 ⊢; exact f1, lv, f2, fun i v hi hv => ?_⟩
  rw [List.getElem?_set] at hi
  by_cases hij : j = i
  · subst hij
    rw [if_pos rfl, if_pos hj] at hi
    cases hi
    obtain ⟨-, w, w1, w2⟩ := f3 j (sy_I x) (by rw [List.getElem?_set, if_pos rfl, if_pos hj]) (by show (0 : Nat) ≠ 9; decide)
    refine ⟨by show (11 : Nat) ≠ 7; decide, w, w1, x, ?_, hx.1, hx.2⟩
    rw [show w = .int (ev_i (ev_u x)) from w2, ev_iu]
  · rw [if_neg hij] at hi
    exact f3 i v (by rw [List.getElem?_set, if_neg hij]; exact hi) hv
theorem nm_int {w : Value} {v : ev_V} (h : e2_rel ads r v w) (hv : e2_isI v.1 = true) : ∃ x : Int32, w = .int x ∧ ex_v v w = sy_I x := by
  obtain ⟨x, rfl⟩ := h.intI hv
  exact ⟨x, rfl, rfl⟩
theorem nm_long {w : Value} {v : ev_V} (h : e2_rel ads r v w) (hv : e2_isL v.1 = true) : ∃ u, u < 18446744073709551616 ∧ ex_v v w = (4, u, 0) := by
  obtain ⟨x, rfl⟩ := h.long hv
  exact ⟨_, nm_lt x, rfl⟩
theorem nm_top {ads r' : List Nat} {lq lp : List ev_V} {x y : Int32} {e' : va_E} (hz : ∀ (j : Nat) (v : ev_V), lp[j]? = some v → ∃ u, lq[j]? = some u ∧ ∀ w, e2_rel ads r' u w → e2_rel ads r' v w) (hl : lq.length = lp.length) (h7 : 7 < lp.length) (hr : e2_relC cA ads r' 3 ((lq.set 6 (sy_I x)).set 7 (sy_I y)) e') : e2_relC cA ads r' 3 ((lp.set 6 (11, 0, 4294967295)).set 7 (11, 0, 4294967295)) e' := by
  obtain ⟨vs, z1, z2, z3⟩ := hr.obj (by decide)
  refine Or.inl ⟨by decide, vs, z1, by rw [z2]; simp only [List.length_set]; exact hl, fun j v hj => ?_⟩
  rw [List.getElem?_set] at hj
  by_cases h7j : 7 = j
  · subst h7j
    rw [if_pos rfl, if_pos (by rw [List.length_set]; exact h7)] at hj
    cases hj
    obtain ⟨w, w1, w2⟩ := z3 7 (sy_I y) (by rw [List.getElem?_set, if_pos rfl, if_pos (by rw [List.length_set]; omega)])
    exact ⟨w, w1, y, by rw [show w = .int (ev_i (ev_u y)) from w2, ev_iu], (hd_top y).1, (hd_top y).2⟩
  rw [if_neg h7j, List.getElem?_set] at hj
  by_cases h6j : 6 = j
  · subst h6j
    rw [if_pos rfl, if_pos (by omega)] at hj
    cases hj
    obtain ⟨w, w1, w2⟩ := z3 6 (sy_I x) (by rw [List.getElem?_set, if_neg h7j, List.getElem?_set, if_pos rfl, if_pos (by omega)])
    exact ⟨w, w1, x, by rw [show w = .int (ev_i (ev_u x)) from w2, ev_iu], (hd_top x).1, (hd_top x).2⟩
  rw [if_neg h6j] at hj
  obtain ⟨u, u1, u2⟩ := hz j v hj
  obtain ⟨w, w1, w2⟩ := z3 j u (by rw [List.getElem?_set, if_neg h7j, List.getElem?_set, if_neg h6j]; exact u1)
  exact ⟨w, w1, u2 w w2⟩
set_option maxHeartbeats 4000000 in
theorem nm_macro {C : List ev_I} {X : List e2_X} (mk : List Nat) (hen : en_ok) (hC : ∀ S, e2_okL e2_MT M.1.cls (M.1.name == "<init>") M.2.2.2 M.2.1 (e2_mark S C)) (hX : X = (e2_mark mk C).map e2_x) (ha : e2_act M d F p l e R s m args below meth c Q D cA A ads r0) (hd : 3 ≤ d)
    {t nmf cntf a n j : Nat} (ht : t < 133) (ht33 : t ≠ 33 ∧ t ≠ 34) (h133 : a < 133) (hn8 : n ≤ 8) (hok : nm_ok t nmf cntf a n al E h)
    {s0 s1 s2 s3 s4 s5 s6 s7 s8 f0 u0 u1 u2 u3 u4 u5 u6 u7 u8 u9 u10 pe : Nat}
    (a0 : sy_at X s0 (o2_aload 0) s1) (a1 : sy_at X s1 (o2_aload 0) s2) (a2 : sy_at X s2 (o2_getf 3 1) s3) (a3 : sy_at X s3 (o2_getf 8 nmf) s4) (a4 : sy_at X s4 (o2_aload 0) s5) (a5 : sy_at X s5 (o2_getf 3 1) s6) (a6 : sy_at X s6 (o2_getf 8 cntf) s7) (a7 : sy_at X s7 (o2_virt 50 2 3) s8) (a8 : sy_at X s8 (o2_ifc .ne u0) f0)
    (b0 : sy_at X u0 (o2_aload 0) u1) (b1 : sy_at X u1 (o2_getf 3 0) u2) (b2 : sy_at X u2 (o2_getf 7 6) u3) (b3 : sy_at X u3 (o2_aload 0) u4) (b4 : sy_at X u4 (o2_getf 3 1) u5) (b5 : sy_at X u5 (o2_getf 8 nmf) u6) (b6 : sy_at X u6 (o2_aload 0) u7) (b7 : sy_at X u7 (o2_getf 3 1) u8) (b8 : sy_at X u8 (o2_getf 8 cntf) u9) (b9 : sy_at X u9 (o2_stat 48 3) u10) (b10 : sy_at X u10 (o2_istore j) pe)
    (hj : j < al.length) (hnl : e2_nl al j true = true)
    (hA : e2_gdM M p l e R s m args below meth c Q D cA A ads r0 f0 al [] E (ev_hs h 33 (3, ((ev_hg h 33).2.set 6 (11, 0, 4294967295)).set 7 (11, 0, 4294967295)))) (hB : e2_gdM M p l e R s m args below meth c Q D cA A ads r0 pe (al.set j (11, 2147483648, 2147483647 + n)) [] E h) : e2_gdM M p l e R s m args below meth c Q D cA A ads r0 s0 al [] E h := by
  intro r ws H locs ls vs hp hs hwo hS hfr hst
  have hG := sy_gd mk hen hC hX (ha.ext hp)
  obtain ⟨⟨b33, g0⟩, ⟨lp, p1, p2, ⟨c0, p3⟩, c1, p4⟩, ⟨lt, t1, ⟨vk, t2, t3⟩, ⟨vp, t4, t5⟩, vw, t6, t7⟩, ⟨lo, o1, ⟨c2, o2⟩, vc, o3, o4, o5⟩, -, k53, n50, n68, v8, k8, kn⟩ := hok
  obtain ⟨vs3, x1, x2, x3⟩ := ex_obj hwo (k := 33) (by omega) (by omega) p1
  obtain ⟨vs4, y1, y2, y3⟩ := ex_obj hwo (k := 34) (by omega) (by omega) t1
  obtain ⟨vso, z1, z2, z3⟩ := ex_obj hwo ht (by omega) o1
  obtain ⟨w0, e0, q0⟩ := x2 0 _ p3
  obtain ⟨w1, e1, q1⟩ := x2 1 _ p4
  obtain ⟨wk, ek, qk⟩ := y2 3 _ t2
  obtain ⟨wp, ep, qp⟩ := y2 4 _ t4
  obtain ⟨ww, ew, qw⟩ := y2 6 _ t6
  obtain ⟨wn, en, qn⟩ := z2 nmf _ o2
  obtain ⟨wc, ec, qc⟩ := z2 cntf _ o3
  obtain ⟨kd, -, hkd⟩ := nm_int qk t3
  obtain ⟨pl, -, hpl⟩ := nm_int qp t5
  obtain ⟨w, hw, hww⟩ := nm_long qw t7
  obtain ⟨cx, rfl, hcx⟩ := nm_int qc o4
  have hcb := o5 ads r cx hs qc
  obtain ⟨cn, hcn, rfl⟩ := ex_nat (n := 8) hcb.1 hcb.2 (by omega)
  obtain ⟨N, hN⟩ : ∃ N, ev_hg (ex_all ws h) a = (59, sy_RL n N) := by
    obtain ⟨aa, ee, m1, m2⟩ := hwo.2.2.1 a h133
    rw [ex_get h133 m1]
    obtain ⟨nn, bb, f, f1, rfl⟩ := m2.lng k53
    rw [k8] at f1
    cases f1
    have kn : nn = n := kn
    subst kn
    refine ⟨f, ?_⟩
    exact if_pos (Or.inl k53)
  have r0' := hd_z p3 e0
  rw [hd_ref q0] at r0'
  have r1' := hd_z p4 e1
  rw [hd_ref q1] at r1'
  have rk := hd_z t2 ek
  rw [hkd] at rk
  have rp := hd_z t4 ep
  rw [hpl] at rp
  have rw' := hd_z t6 ew
  rw [hww] at rw'
  have rn := hd_z o2 en
  rw [hd_ref qn] at rn
  have rc := hd_z o3 ec
  rw [hcx] at rc
  have l7 : 7 < (List.zipWith ex_v lp vs3).length := by rw [List.length_zipWith]; omega
  have hT : nm_T (ex_all ws h) (List.zipWith ex_v lp vs3) (List.zipWith ex_v lt vs4) kd pl w := ⟨x3, ⟨c0, r0'⟩, l7, y3, rk, rp, rw'⟩
  have hB' : ∀ i, i < n → e2_gdM M p l e R s m args below meth c Q D cA A ads r pe (al.set j (sy_I (ev_i i))) [] E (ex_all ws h) := fun i hi => by
    refine gd_le (hB.ext hp) (fun r' ws' H' hp' hw' => ?_) (fun r' ls' hf => fr_le (by rw [sy_k (by omega)]; omega) hj hf)
    exact ex_back hwo hp' hw' n50 n68 fun k hk => Or.inl ⟨rfl, rfl⟩
  have hA' : ∀ x y, e2_gdM M p l e R s m args below meth c Q D cA A ads r f0 al [] E (nm_h (ex_all ws h) (List.zipWith ex_v lp vs3) x y) := fun x y => by
    refine gd_le (hA.ext hp) (fun r' ws' H' hp' hw' => ?_) (fun r' ls' hf => hf)
    refine ex_back hwo hp' hw' ?_ ?_ fun k hk => ?_
    · rw [rd_g (by omega) (by omega) (by omega) rfl]; exact n50
    · rw [rd_g (by omega) (by omega) (by omega) rfl]; exact n68
    · by_cases h33 : k = 33
      · subst h33
        refine Or.inr fun e' he' => ?_
        rw [nm_h_33] at he'
        rw [rd_e (by omega), p1]
        refine nm_top (fun j v hv => ?_) (by show (List.zipWith ex_v lp vs3).length = lp.length; rw [List.length_zipWith]; omega) p2 he'
        obtain ⟨w, w1, w2⟩ := x2 j v hv
        exact ⟨_, hd_z hv w1, fun w' hw' => ex_v_bk w2 hp' hw'⟩
      · exact Or.inl ⟨nm_h_k hk h33, rd_g (by omega) hk h33 rfl⟩
  have main : e2_gdM M p l e R s m args below meth c Q D cA A ads r s0 al [] E (ex_all ws h) := by
    refine sy_aload hG a0 g0 (sy_aload hG a1 g0 (sy_getf hG a2 (by omega) x3 r1' (Or.inr rfl) (sy_getf hG a3 ht z3 rn (Or.inr rfl) (sy_aload hG a4 g0 (sy_getf hG a5 (by omega) x3 r1' (Or.inr rfl) (sy_getf hG a6 ht z3 rc (Or.inl rfl) (sy_virt (qs := [sy_I (ev_i cn), (2, a, c2)]) (r := []) hG a7 rfl rfl (by omega) x3 rfl (nm_known hen hT h133 hN hn8 hcn hw) hd (fun v E' h' hp => ?_))))))))
    obtain ⟨hE', hv⟩ := hp
    subst hE'
    rcases hv with ⟨rfl, x, y, rfl⟩ | ⟨rfl, rfl, hit⟩
    · refine ⟨by show (0 : Nat) ≠ 12; decide, ?_⟩
      rw [sy_bhI]
      exact sy_ifc hG a8 (fun z => absurd rfl z) (fun _ => hA' x y)
    refine ⟨by show (0 : Nat) ≠ 12; decide, ?_⟩
    rw [sy_bhI]
    refine sy_ifc hG a8 (fun _ => ?_) (fun z => absurd (show ¬ ((1 : Int32) = 0) by decide) z)
    refine sy_aload hG b0 g0 (sy_getf hG b1 (by omega) x3 r0' (Or.inr rfl) (sy_getfL hG b2 (by omega) y3 rw' (sy_aload hG b3 g0 (sy_getf hG b4 (by omega) x3 r1' (Or.inr rfl) (sy_getf hG b5 ht z3 rn (Or.inr rfl) (sy_aload hG b6 g0 (sy_getf hG b7 (by omega) x3 r1' (Or.inr rfl) (sy_getf hG b8 ht z3 rc (Or.inl rfl) (sy_stat (qs := [sy_I (ev_i cn), (2, a, c2), (4, w, 0)]) (r := []) hG b9 rfl rfl rfl (nm_index hen h133 hN hn8 hcn hw) (by omega) (fun v E' h' hp => ?_))))))))))
    obtain ⟨hE', hh', hv⟩ := hp
    subst hE'
    subst hh'
    rcases hv with ⟨i, i1, i2, i3, rfl⟩ | ⟨i1, -⟩
    · refine ⟨by show (0 : Nat) ≠ 12; decide, ?_⟩
      rw [sy_bhI]
      exact sy_istore hG b10 hnl hj rfl (hB' i i2)
    · obtain ⟨i, j1, j2, j3⟩ := hit
      exact absurd j3 (i1 i j1 j2)
  exact main r ws H locs ls vs ⟨[], by simp⟩ hs (ex_wo hwo) hS hfr hst
end NmG
/-- a contract of a method with such steps -/
theorem e2_conD {l : Launch} {H n : Nat} {k nL : Nat} {C : List ev_I} {S : List e2_Sm} {I : List e2_In} {fuel : Nat} {as : List ev_V} {E : e2_E} {f : ev_H} {res : e2_Rs} (hen : en_ok) (hm : e2_mOk k nL C) (hS : ∀ s ∈ S, e2_smOk l H s) (hI : ∀ x ∈ I, e2_inOk x) (hlen : (e2_exp as).length ≤ nL) (hok : e2_okSB E.length as f res = true)
    (hg : ∀ (M : ev_M) (d : Nat), H + n ≤ d → M.2.2.1 = nL → (∀ S, e2_okL e2_MT M.1.cls (M.1.name == "<init>") M.2.2.2 M.2.1 (e2_mark S C)) → (∀ k M, e2_MT[k]? = some M → ∀ as E h K, e2_cal S I fuel n k as E h K = true → e2_Met l M d as E h K) → ∀ (p : Program) (e : Env) (R : Room) (s : State) (m : MethodId) (args : Array Value) (below : List Frame) (meth : Method) (c : Code) (Q : State → Prop) (D : va_G) (cA : e2_cA) (A : Nat → Prop) (ads r0 : List Nat), e2_act M d (e2_fin res) p l e R s m args below meth c Q D cA A ads r0 → r0.length ≤ E.length → e2_gdM M p l e R s m args below meth c Q D cA A ads r0 0 (e2_al nL as) [] E f) : e2_smOk l (H + n + 1) (k, as, E, f, res) := by
  refine ⟨e2_okSB_ok hok, fun M hM d hd => ?_⟩
  obtain ⟨M', hM', hn, hpl, hC⟩ := hm
  have hM : e2_MT[k]? = some M := hM
  rw [hM] at hM'
  cases hM'
  cases d with
  | zero => omega
  | succ d =>
    refine e2_Met_ofG hpl (by rw [hn]; exact hlen) fun p e R s m args below meth c Q D cA A ads r0 ha => ?_
    rw [hn]
    exact e2_gdM.len fun hl => hg M d (by omega) hn hC (e2_cal_ok hen hS hI n d (by omega)) p e R s m args below meth c Q D cA A ads r0 ha hl
theorem nm_nl {al : List ev_V} {i : Nat} {k : Bool} (hh : e2_nl al i k = true) : e2_nl al i true = true ∧ k = true := by
  cases i with
  | zero => exact ⟨rfl, hh⟩
  | succ m =>
    obtain ⟨a, h1, h2⟩ := e2_get_t (show e2_get al m (fun v => e2_if (!(e2_isL v.1)) k) = true from hh)
    obtain ⟨h3, h4⟩ := e2_if_t h2
    refine ⟨?_, h4⟩
    show e2_get al m (fun v => e2_if (!(e2_isL v.1)) true) = true
    rw [sy_get h1, sy_if_t h3]
section NmS
variable {p : Program} {l : Launch} {e : Env} {R : Room} {s : State} {m : MethodId} {args : Array Value} {below : List Frame} {meth : Method} {c : Code} {Q : State → Prop} {D : va_G} {cA : e2_cA} {A : Nat → Prop} {ads r0 : List Nat} {d : Nat} {F : e2_F} {M : ev_M} {run : Nat → e2_S} {t nmf cntf a n pcf pe j : Nat}
theorem nm_S_t {al st : List ev_V} {E : e2_E} {h : ev_H} (hh : nm_S run t nmf cntf a n pcf pe j al st E h = true) : st = [] ∧ nm_ok t nmf cntf a n al E h ∧ run pcf al [] E (ev_hs h 33 (3, ((ev_hg h 33).2.set 6 (11, 0, 4294967295)).set 7 (11, 0, 4294967295))) = true ∧ j < al.length ∧ e2_nl al j true = true ∧ run pe (al.set j (11, 2147483648, 2147483647 + n)) [] E h = true := by
  obtain ⟨h0, hh⟩ := e2_0_t hh
  obtain ⟨h1, hh⟩ := e2_if_t hh
  obtain ⟨h2, hh⟩ := e2_if_t hh
  rw [ev_tget_k, ev_tset_k] at h2
  refine ⟨h0, nm_okB_ok h1, h2, ?_⟩
  obtain ⟨h3, h4⟩ := nm_nl hh
  obtain ⟨h5, h6⟩ := e2_setK_t h4
  exact ⟨h5, h3, h6⟩
end NmS
