/-! READ AND FOLLOW AS SUMMARIES -/
theorem ex_fr {ads r : List Nat} {nL i : Nat} {al : List ev_V} {ls : Array Slot} {v : ev_V} (h : e2_fr ads r nL al ls) (hi : al[i]? = some v) (hv : v.1 = 0 ∨ v.1 = 1 ∨ v.1 = 11 ∨ v.1 = 13 ∨ v.1 = 14) : ∃ x : Int32, e2_rel ads r v (.int x) ∧ e2_fr ads r nL (al.set i (sy_I x)) ls := by
  obtain ⟨h1, lv, h2, h3⟩ := h
  obtain ⟨h7, w, q1, q2⟩ := h3 i v hi (by omega)
  obtain ⟨x, rfl⟩ := q2.int hv
  refine ⟨x, q2, by rw [List.length_set]; exact h1, lv, h2, fun j u hj hu => ?_⟩
  rw [List.getElem?_set] at hj
  by_cases hij : i = j
  · subst hij
    rw [if_pos rfl, if_pos (List.getElem?_eq_some_iff.mp hi).1] at hj
    cases hj
    exact ⟨by show (0 : Nat) ≠ 7; decide, _, q1, e2_rel.ex ads r x 0⟩
  · rw [if_neg hij] at hj
    exact h3 j u hj hu
theorem hd_11 {ads r : List Nat} {lo hi : Nat} {w : Value} (h : e2_rel ads r (11, lo, hi) w) : ∃ x : Int32, w = .int x ∧ lo ≤ ev_key x ∧ ev_key x ≤ hi := h
theorem ex_i {x : Int32} {d : Nat} (h : ev_key x = 2147483648 + d) (hd : d < 2147483648) : x = ev_i d := ev_key_eqI.mpr (by rw [sy_k hd]; exact h)
theorem ex_nat {x : Int32} {n : Nat} (h1 : 2147483648 ≤ ev_key x) (h2 : ev_key x ≤ 2147483648 + n) (hn : n < 2147483648) : ∃ d, d ≤ n ∧ x = ev_i d := ⟨ev_key x - 2147483648, by omega, ex_i (by omega) (by omega)⟩
/-- the shape of a reader's object, as it is known -/
def hd_o (b t : Nat) (vf : ev_V) : List ev_V := [(2, b + 3, 0), (11, 0, 4294967295), (2, b + 4, 0), (2, b + 7, 0), (2, t, 0), (2, b + 5, 0), vf, (2, b + 2, 0), (11, 2147483648, 2147483668), (2, b + 6, 0), (2, b + 1, 0), (2, b + 8, 0), (2, b + 9, 0), (2, b + 10, 0), (2, b + 11, 0)]
abbrev hd_r (n lo hi : Nat) : ev_C := (54, [(0, n, 0), (11, lo, hi)])
abbrev hd_w (n lo hi : Nat) : ev_C := (57, [(0, n, 0), (11, lo, hi), (1, 1, 4294967296)])
/-- what read and follow find -/
def hd_F (b t : Nat) (f : ev_H) (vf : ev_V) : Prop :=
  (b = 47 ∨ b = 65) ∧ (t = 1 ∨ t = 17) ∧ ev_hg f b = (5, hd_o b t vf) ∧
  (∃ lt, ev_hg f t = (8, lt) ∧ lt[0]? = some (1, 1, 4294967296) ∧ lt[1]? = some (11, 2147483648, 2147483656) ∧ lt[4]? = some (2, t + 8, 0) ∧ lt[5]? = some (2, t + 9, 0) ∧ lt[14]? = some (2, t + 4, 0) ∧ lt[15]? = some (2, t + 5, 0)) ∧
  ev_hg f (t + 5) = (58, List.replicate 8 (11, 2147483648, 2147483654)) ∧ ev_hg f (t + 4) = hd_r 8 0 4294967295 ∧ ev_hg f (t + 8) = hd_r 8 0 4294967295 ∧ ev_hg f (t + 9) = hd_r 8 0 4294967295 ∧
  ev_hg f (b + 1) = hd_r 160 0 4294967295 ∧ ev_hg f (b + 3) = hd_w 21 2147483648 2147483668 ∧ ev_hg f (b + 5) = hd_r 189 0 4294967295 ∧ ev_hg f (b + 7) = hd_r 189 0 4294967295 ∧ ev_hg f (b + 8) = hd_r 8 0 4294967295 ∧ ev_hg f (b + 9) = hd_r 8 0 4294967295 ∧ ev_hg f (b + 10) = hd_r 20 2147483648 2147483667 ∧ ev_hg f (b + 11) = hd_r 20 2147483648 2147483655 ∧
  (ev_hg f (112 - b + 3)).1 = 54 ∧ (ev_hg f (18 - t + 5)).1 = 50
/-- an object's list of values, told in full -/

theorem hd_15 {α : Type} {vs : List α} (h : vs.length = 15) : ∃ w0 w1 w2 w3 w4 w5 w6 w7 w8 w9 w10 w11 w12 w13 w14, vs = [w0, w1, w2, w3, w4, w5, w6, w7, w8, w9, w10, w11, w12, w13, w14] := by
  match vs, h with
  | [w0, w1, w2, w3, w4, w5, w6, w7, w8, w9, w10, w11, w12, w13, w14], _ => exact ⟨w0, w1, w2, w3, w4, w5, w6, w7, w8, w9, w10, w11, w12, w13, w14, rfl⟩
theorem hd_ref {ads r : List Nat} {a b : Nat} {w : Value} (h : e2_rel ads r (2, a, b) w) : ex_v (2, a, b) w = (2, a, b) := by
  obtain ⟨q, -, rfl⟩ := h
  rfl
section HdX
variable {D : va_G} {cA : e2_cA} {A : Nat → Prop} {ads r : List Nat} {ws : va_W} {f : ev_H} {H : Heap} {b t : Nat} {vf : ev_V}
theorem hd_x1 (hF : hd_F b t f vf) (hvf : vf = (0, 0, 0) ∨ vf = (0, 1, 0) ∨ vf = (11, 2147483648, 2147483649)) (hw : e2_wo D cA A ads r ws f H) : ∃ (lk fr : Int32) (k0 : Nat), k0 ≤ 20 ∧ ev_hg (ex_all ws f) b = (5, rd_o b t lk fr (ev_i k0)) ∧ e2_rel ads r vf (.int fr) ∧ (vf = (0, 1, 0) → fr ≠ 0) := by
  obtain ⟨hb, ht, c1, -⟩ := hF
  obtain ⟨vs, l1, l2, l3⟩ := ex_obj hw (by omega) (by omega) c1
  obtain ⟨w0, w1, w2, w3, w4, w5, w6, w7, w8, w9, w10, w11, w12, w13, w14, rfl⟩ := hd_15 (show vs.length = 15 from l1)

  obtain ⟨u0, e0, q0⟩ := l2 0 _ rfl
  cases (Option.some.inj e0 : w0 = u0)
  obtain ⟨u1, e1, q1⟩ := l2 1 _ rfl
  cases (Option.some.inj e1 : w1 = u1)
  obtain ⟨u2, e2, q2⟩ := l2 2 _ rfl
  cases (Option.some.inj e2 : w2 = u2)
  obtain ⟨u3, e3, q3⟩ := l2 3 _ rfl
  cases (Option.some.inj e3 : w3 = u3)
  obtain ⟨u4, e4, q4⟩ := l2 4 _ rfl
  cases (Option.some.inj e4 : w4 = u4)
  obtain ⟨u5, e5, q5⟩ := l2 5 _ rfl
  cases (Option.some.inj e5 : w5 = u5)
  obtain ⟨u6, e6, q6⟩ := l2 6 _ rfl
  cases (Option.some.inj e6 : w6 = u6)
  obtain ⟨u7, e7, q7⟩ := l2 7 _ rfl
  cases (Option.some.inj e7 : w7 = u7)
  obtain ⟨u8, e8, q8⟩ := l2 8 _ rfl
  cases (Option.some.inj e8 : w8 = u8)
  obtain ⟨u9, e9, q9⟩ := l2 9 _ rfl
  cases (Option.some.inj e9 : w9 = u9)
  obtain ⟨u10, e10, q10⟩ := l2 10 _ rfl
  cases (Option.some.inj e10 : w10 = u10)
  obtain ⟨u11, e11, q11⟩ := l2 11 _ rfl
  cases (Option.some.inj e11 : w11 = u11)
  obtain ⟨u12, e12, q12⟩ := l2 12 _ rfl
  cases (Option.some.inj e12 : w12 = u12)
  obtain ⟨u13, e13, q13⟩ := l2 13 _ rfl
  cases (Option.some.inj e13 : w13 = u13)
  obtain ⟨u14, e14, q14⟩ := l2 14 _ rfl
  cases (Option.some.inj e14 : w14 = u14)
  obtain ⟨lk, rfl, -, -⟩ := hd_11 q1
  obtain ⟨tk, rfl, t1, t2⟩ := hd_11 q8
  obtain ⟨k0, hk0, rfl⟩ := ex_nat (n := 20) t1 t2 (by omega)
  have hfr : ∃ fr : Int32, w6 = .int fr ∧ (vf = (0, 0, 0) → fr = 0) ∧ (vf = (0, 1, 0) → fr ≠ 0) := by
    rcases hvf with rfl | rfl | rfl
    · have q6 : w6 = .int (ev_i 0) := q6
      exact ⟨_, q6, fun _ => rfl, fun z => (by cases z)⟩
    · have q6 : w6 = .int (ev_i 1) := q6
      exact ⟨_, q6, fun z => (by cases z), fun _ => (by decide)⟩
    · obtain ⟨x, hx, -⟩ := q6
      exact ⟨x, hx, fun z => (by cases z), fun z => (by cases z)⟩
  obtain ⟨fr, rfl, f0, f1⟩ := hfr
  refine ⟨lk, fr, k0, hk0, ?_, q6, f1⟩
  rw [l3]
  show ((5, [ex_v _ w0, sy_I lk, ex_v _ w2, ex_v _ w3, ex_v _ w4, ex_v _ w5, sy_I fr, ex_v _ w7, sy_I (ev_i k0), ex_v _ w9, ex_v _ w10, ex_v _ w11, ex_v _ w12, ex_v _ w13, ex_v _ w14]) : ev_C) = _
  rw [hd_ref q0, hd_ref q2, hd_ref q3, hd_ref q4, hd_ref q5, hd_ref q7, hd_ref q9, hd_ref q10, hd_ref q11, hd_ref q12, hd_ref q13, hd_ref q14]
  rfl
theorem hd_z {l : List ev_V} {vs : List Value} {j : Nat} {v : ev_V} {w : Value} (h1 : l[j]? = some v) (h2 : vs[j]? = some w) : (List.zipWith ex_v l vs)[j]? = some (ex_v v w) := by rw [List.getElem?_zipWith, h1, h2]
/-- what it goes by -/
theorem hd_xT (hF : hd_F b t f vf) {E : e2_E} (hE : E[1]? = some (2147483652, 2147483668, 1, 0)) (hs : e2_sat r E) (hw : e2_wo D cA A ads r ws f H) : ∃ (s n : Nat) (L sh nb na w : Nat → Int32), 1 ≤ s ∧ r[1]? = some (2147483648 + s) ∧ e2_ct ws (t + 5) L ∧ rd_T b t (ex_all ws f) s n L sh nb na w := by
  obtain ⟨hb, ht, -, ⟨lt, c1, c2, c3, c4, c5, c6, c7⟩, c8, c9, c10, c11, c12, -⟩ := hF
  obtain ⟨vs, l1, l2, l3⟩ := ex_obj hw (by omega) (by omega) c1
  obtain ⟨w0, e0, q0⟩ := l2 0 _ c2
  obtain ⟨w1, e1, q1⟩ := l2 1 _ c3
  obtain ⟨w4, e4, q4⟩ := l2 4 _ c4
  obtain ⟨w5, e5, q5⟩ := l2 5 _ c5
  obtain ⟨w14, e14, q14⟩ := l2 14 _ c6
  obtain ⟨w15, e15, q15⟩ := l2 15 _ c7
  obtain ⟨x, k, rfl, hk, hxk⟩ := q0
  obtain ⟨kk, kb, g1, g2, g3, g4, g5⟩ := hs.2 1 _ hE
  have hk : r[1]? = some k := hk
  rw [hk] at g1
  cases g1
  have hxk : ev_key x + 4294967296 = k + 4294967296 := hxk
  have g2 : 2147483652 ≤ k := g2
  have g3 : k ≤ 2147483668 := g3
  obtain ⟨s, hs20, rfl⟩ := ex_nat (x := x) (n := 20) (by omega) (by omega) (by omega)
  rw [sy_k (by omega)] at hxk
  obtain ⟨n, rfl, n1, n2⟩ := hd_11 q1
  obtain ⟨n, hn, rfl⟩ := ex_nat (n := 8) n1 n2 (by omega)
  obtain ⟨L, L1, L2, L3⟩ := ex_50 hw (k := t + 5) (by omega) (Or.inr rfl) c8
  obtain ⟨sh, -, -, sh3⟩ := ex_54 hw (k := t + 4) (by omega) c9
  obtain ⟨nb, -, -, nb3⟩ := ex_54 hw (k := t + 8) (by omega) c10
  obtain ⟨na, -, -, na3⟩ := ex_54 hw (k := t + 9) (by omega) c11
  obtain ⟨w, -, -, w3⟩ := ex_54 hw (k := b + 1) (by omega) c12
  refine ⟨s, n, L, sh, nb, na, w, by omega, by rw [hk]; congr 1; omega, L1, hb, ht, hs20, hn, fun g hg => ?_, ⟨_, l3, ?_, ?_, ?_, ?_, ?_, ?_⟩, L3, sh3, nb3, na3, w3⟩
  · have := L2 g (11, 2147483648, 2147483654) (by rw [List.getElem?_replicate, if_pos hg])
    obtain ⟨y, hy, y1, y2⟩ := hd_11 this
    injection hy with hy
    rw [hy]
    exact ex_nat (n := 6) y1 y2 (by omega)
  · exact hd_z c2 e0
  · exact hd_z c3 e1
  · rw [hd_z c4 e4, hd_ref q4]
  · rw [hd_z c5 e5, hd_ref q5]
  · rw [hd_z c6 e14, hd_ref q14]
  · rw [hd_z c7 e15, hd_ref q15]
end HdX

