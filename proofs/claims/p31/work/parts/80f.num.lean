/-! MEADOW IN THE WORLD -/
def lw_bf : List (Nat × Nat × Nat) := [(6, 2147483648, 2147483688), (13, 2147483648, 2147483649), (14, 2147483648, 2147485248), (20, 2147483648, 2147483668), (21, 2147483648, 2147485248), (23, 0, 4294967295), (24, 2147483648, 2147485248), (27, 2147483648, 2147483678), (34, 2147483648, 2147483688), (36, 0, 4294967295), (37, 2147483648, 2147485249), (38, 2147483648, 2147483653), (41, 2147483648, 2147493647), (57, 2147483648, 2147484768), (58, 2147482048, 2147483655), (59, 2147483648, 2147483738), (60, 2147483648, 2147483678), (11, 2147483648, 2147483668), (61, 0, 4294967295), (62, 0, 4294967295), (63, 0, 4294967295), (64, 0, 4294967295), (65, 0, 4294967295)]
def lw_br : List (Nat × Nat × Nat) := [(84, 2147483520, 2147483775), (85, 2147483520, 2147483775), (87, 2147483648, 2147483652), (88, 2147483648, 2147483656), (89, 0, 4294967295), (90, 0, 4294967295), (91, 0, 4294967295), (92, 2147483648, 2147483708), (93, 2147483648, 2147484647), (94, 0, 4294967295), (95, 0, 4294967295), (96, 0, 4294967295), (97, 2147483648, 2147483654), (98, 2147483648, 2147483651), (99, 0, 4294967295), (100, 0, 4294967295), (103, 2147483648, 2147483649), (108, 0, 4294967295), (109, 0, 4294967295), (110, 0, 4294967295), (111, 0, 4294967295), (113, 0, 4294967295), (114, 0, 4294967295), (115, 0, 4294967295), (116, 2147483648, 2147483655), (117, 2147483648, 2147483667), (119, 0, 4294967295), (122, 2147483648, 2147483667), (123, 0, 4294967295), (132, 2147483648, 2147483649)]
/-- closed: what the first weak heap knows of parts and rows -/
def lw_BB (hB : ev_H) : Prop := (∀ q ∈ lw_bf, (ev_hg hB 83).2[q.1]? = some (11, q.2.1, q.2.2)) ∧ (∀ q ∈ lw_br, ∀ j, j < (lw_tt.getD q.1 (0, 0)).2 → lw_el (ev_hg hB q.1) j = (11, q.2.1, q.2.2)) ∧ (∀ j, j < 26 → lw_el (ev_hg hB 112) j = (11, if j = 25 then (2147483648, 2147484647) else (0, 4294967295))) ∧ (ev_hg hB 83).2[22]? = some (1, 0, 4294967296) ∧ ∀ q ∈ lw_br, (84 ≤ q.1 ∧ q.1 ≠ 86) ∧ q.1 < 133 ∧ q.1 ≠ 104 ∧ q.1 ≠ 107 ∧ q.1 ≠ 101 ∧ q.1 ≠ 102 ∧ (lw_tt.getD q.1 (0, 0)).1 ≠ 53 ∧ (ev_hg hB q.1).1 < 60
/-- closed: the others, as against the first -/
def lw_W (hB hW : ev_H) (b m : Nat) : Prop := lw_okW hW b m ∧ lw_kB hW = true ∧ lw_kO hW = true ∧ (ev_hg hW 83).2.length = 80 ∧ (ev_hg hW 83).2[42]? = some (5, 0, 0) ∧ (∀ k, 84 ≤ k ∧ k ≠ 86 → k < 133 → k ≠ 104 → k ≠ 107 → k ≠ 101 → k ≠ 102 → ev_hg hW k = ev_hg hB k) ∧ (∀ j, j < 80 → j ≠ 0 → (ev_hg hW 83).2[j]? = (ev_hg hB 83).2[j]?) ∧ (ev_hg hW 83).2[0]? = some (0, b, 0) ∧ (∀ j, j < 4 → lw_el (ev_hg hW 104) j = if j / 2 = b then (0, m / 2 ^ (j % 2) % 2, 0) else (11, 2147483648, 2147483649)) ∧ (ev_hg hW 83).1 = 10 ∧ (ev_hg hW 104).1 = 52 ∧ ev_hg hW 86 = (50, [(11, 2147483652, 2147483668), (11, 2147483648 + 4 * b, 2147483668)])
theorem lw_num {ads : List Nat} {c1 : Nat → ClassId} {ws : va_W} {b m T : Nat} {hB hW : ev_H} (hb : b < 2) (hm : m < 4) (hBB : lw_BB hB) (hW1 : lw_W hB hW b m) (h : lw_RL c1 ads ws b m hW T) :
    (∀ q ∈ lw_bf, lw_tf[q.1]? = some 0 → q.1 ≠ 0 → q.1 < 80 → (q.2.1 : Int) ≤ lw_F ws q.1 + 2147483648 ∧ lw_F ws q.1 + 2147483648 ≤ (q.2.2 : Int)) ∧ (∀ q ∈ lw_br, ∀ i : Int, 0 ≤ i → i < (lw_tt.getD q.1 (0, 0)).2 → (q.2.1 : Int) ≤ lw_R ws q.1 i + 2147483648 ∧ lw_R ws q.1 i + 2147483648 ≤ (q.2.2 : Int)) ∧ lw_F ws 0 = (b : Int) ∧ (∀ j : Nat, j < 2 → lw_R ws 104 ((2 * b + j : Nat) : Int) = ((m / 2 ^ j % 2 : Nat) : Int)) ∧ (∀ i : Int, 0 ≤ i → i < 4 → 0 ≤ lw_R ws 104 i ∧ lw_R ws 104 i ≤ 1) ∧ lw_F ws 22 = (T : Int) ∧ (0 ≤ lw_R ws 112 25 ∧ lw_R ws 112 25 ≤ 999) := by
  obtain ⟨w1, w2, w3, w4, w5, w6, w7, w8, w9, w10, w11⟩ := hW1
  obtain ⟨g1, g2, g3, g4, g5⟩ := hBB
  obtain ⟨f1, f2⟩ := h.fit hb hm w2 w3 w10
  refine ⟨fun q hq h0 hn h80 => ?_, fun q hq i i1 i2 => ?_, ?_, fun j hj => ?_, fun i i1 i2 => ?_, ?_, ?_⟩
  · exact (f1 q.1 h0 _ (by rw [w7 q.1 h80 hn]; exact g1 q hq)).o (lw_F_r ws _)
  · obtain ⟨k1, k2, k3, k4, k5, k6, h53, h60⟩ := g5 q hq
    have := f2 q.1 (lw_tt.getD q.1 (0, 0)).1 (lw_tt.getD q.1 (0, 0)).2 k1.1 k2 rfl h53 (by rw [w6 q.1 k1 k2 k3 k4 k5 k6]; exact h60) i.toNat (by omega)
    rw [w6 q.1 k1 k2 k3 k4 k5 k6, g2 q hq _ (by omega), show ((i.toNat : Nat) : Int) = i by omega] at this
    exact this.o (lw_R_r ws _ _)
  · exact (f1 0 rfl _ w8).ox (lw_F_r ws _) (by omega)
  · have := f2 104 52 4 (by omega) (by omega) rfl (by omega) (by rw [w11.1]; decide) (2 * b + j) (by omega)
    rw [w9 _ (by omega), if_pos (by omega), show (2 * b + j) % 2 = j by omega] at this
    exact this.ox (lw_R_r ws _ _) (by omega)
  · have := f2 104 52 4 (by omega) (by omega) rfl (by omega) (by rw [w11.1]; decide) i.toNat (by omega)
    rw [w9 _ (by omega), show ((i.toNat : Nat) : Int) = i by omega] at this
    by_cases hz : i.toNat / 2 = b
    · rw [if_pos hz] at this
      have := this.ox (lw_R_r ws _ _) (by omega)
      omega
    · rw [if_neg hz] at this
      have := this.o (lw_R_r ws _ _)
      omega
  · exact (f1 22 rfl _ (by rw [w7 22 (by omega) (by omega)]; exact g4)).oT (lw_F_r ws _)
  · have := f2 112 50 26 (by omega) (by omega) rfl (by omega) (by rw [w6 112 (by omega) (by omega) (by omega) (by omega) (by omega) (by omega)]; exact w1.2.2.2.2.2.2.2.1 112 (by omega) (by omega) (by omega) (by omega) (by omega) (by omega) |> fun z => by rw [w6 112 (by omega) (by omega) (by omega) (by omega) (by omega) (by omega)] at z; exact z) 25 (by omega)
    rw [w6 112 (by omega) (by omega) (by omega) (by omega) (by omega) (by omega), g3 25 (by omega), if_pos rfl] at this
    have := lw_fx.o (lo := 2147483648) (hi := 2147484647) this (lw_R_r ws _ _)
    have this : (2147483648 : Int) ≤ lw_R ws 112 25 + 2147483648 ∧ lw_R ws 112 25 + 2147483648 ≤ 2147484647 := this
    omega
theorem lw_num86 {ads : List Nat} {c1 : Nat → ClassId} {ws : va_W} {b m T : Nat} {hB hW : ev_H} (hb : b < 2) (hm : m < 4) (hW1 : lw_W hB hW b m) (h : lw_RL c1 ads ws b m hW T) : (4 ≤ lw_R ws 86 0 ∧ lw_R ws 86 0 ≤ 20) ∧ 4 * (b : Int) ≤ lw_R ws 86 1 ∧ lw_R ws 86 1 ≤ 20 := by
  obtain ⟨w1, w2, w3, w4, w5, w6, w7, w8, w9, w10, w11, w12⟩ := hW1
  obtain ⟨-, f2⟩ := h.fit hb hm w2 w3 w10
  have q0 := f2 86 50 2 (by omega) (by omega) rfl (by omega) (by rw [w12]; show 50 < 60; omega) 0 (by omega)
  have q1 := f2 86 50 2 (by omega) (by omega) rfl (by omega) (by rw [w12]; show 50 < 60; omega) 1 (by omega)
  rw [w12] at q0 q1
  have q0 : lw_fx ads T (11, 2147483652, 2147483668) (lw_R ws 86 0) := q0
  have q1 : lw_fx ads T (11, 2147483648 + 4 * b, 2147483668) (lw_R ws 86 1) := q1
  have q0 := q0.o (lw_R_r ws _ _)
  have q1 := q1.o (lw_R_r ws _ _)
  exact ⟨⟨by omega, by omega⟩, by omega, by omega⟩
set_option maxRecDepth 100000 in
theorem lw_mT : ∀ k, k < 133 → (mw_T.getD k (0, 0)).1 ≠ 0 → 84 ≤ k ∧ lw_tt.getD k (0, 0) = mw_T.getD k (0, 0) ∧ (mw_T.getD k (0, 0)).1 ≠ 53 := by decide +kernel
theorem lw_getD {k t n : Nat} (h : mw_T[k]? = some (t, n)) : mw_T.getD k (0, 0) = (t, n) := by rw [List.getD_eq_getElem?_getD, h]; rfl
theorem lw_x_V (ws : va_W) : mw_V (lw_x ws) (lw_x ws) (mw_o (lw_F ws) (lw_F ws 23) (lw_F ws 24) (lw_F ws 36) (lw_F ws 37) (lw_F ws 38) (lw_F ws 41) (lw_N ws) (lw_F ws 57) (lw_F ws 58) (lw_F ws 59) (lw_F ws 60)) (lw_R ws) := by
  refine ⟨by rw [lw_x_83, lw_o_eq], fun k t n hT ht => ?_, ⟨lw_x_53 ws (by omega) (by omega) rfl, lw_x_53 ws (by omega) (by omega) rfl⟩, fun _ _ _ _ _ _ => rfl⟩
  have hk := (mw_Tk hT).1
  have := lw_mT k hk (by rw [lw_getD hT]; exact ht)
  rw [lw_getD hT] at this
  exact lw_x_row ws (by omega) hk this.2.1 this.2.2
/-- rows behind meadow: those that it may change, and the others -/
def lw_Rm (R R2 : Nat → Int → Int) (k : Nat) : Int → Int := if (mw_T.getD k (0, 0)).1 ≠ 0 then R2 k else R k
theorem lw_V_E {ws : va_W} {h' : ev_H} {B2 : Nat → Int} {fk a fp en tok num : Int} {nm : Nat} {cs wi pi ui : Int} {R2 : Nat → Int → Int} (hV : mw_V (lw_x ws) h' (mw_o B2 fk a fp en tok num nm cs wi pi ui) R2) : lw_E h' (mu1 (mu1 (mu1 (mu1 (mu1 (mu1 (mu1 (mu1 (mu1 (mu1 B2 23 fk) 24 a) 36 fp) 37 en) 38 tok) 41 num) 57 cs) 58 wi) 59 pi) 60 ui) nm (lw_Rm (lw_R ws) R2) := by
  obtain ⟨v1, v2, v3, v4⟩ := hV
  refine ⟨by rw [v1, lw_o_eq]; rfl, fun k t n k1 k2 ht => ⟨fun h53 => ?_, fun h53 => ?_⟩⟩
  · by_cases hz : (mw_T.getD k (0, 0)).1 ≠ 0
    · obtain ⟨-, q2, q3⟩ := lw_mT k k2 hz
      rw [ht] at q2
      have hm : mw_T[k]? = some (t, n) := by
        rw [List.getD_eq_getElem?_getD] at q2
        cases hq : mw_T[k]? with
        | none => exact absurd hq (by rw [List.getElem?_eq_none_iff, mw_T_len]; omega)
        | some q => rw [hq] at q2; exact congrArg some q2.symm
      rw [v2 k t n hm (by rw [lw_getD hm] at hz; exact hz)]
      refine congrArg (Prod.mk t) (List.map_congr_left fun j _ => ?_)
      show mw_i (R2 k (j : Int)) = mw_i ((if (mw_T.getD k (0, 0)).1 ≠ 0 then R2 k else lw_R ws k) (j : Int))
      rw [if_pos hz]
    · have hx : ev_hg h' k = ev_hg (lw_x ws) k := by
        have h105 : k ≠ 105 := fun e => by subst e; cases ht; exact h53 rfl
        have h106 : k ≠ 106 := fun e => by subst e; cases ht; exact h53 rfl
        cases hq : mw_T[k]? with
        | none => exact absurd hq (by rw [List.getElem?_eq_none_iff, mw_T_len]; omega)
        | some q =>
          obtain ⟨t', n'⟩ := q
          rw [lw_getD hq] at hz
          have hz : t' = 0 := Classical.byContradiction hz
          subst hz
          exact v4 k n' (by omega) h105 h106 hq
      rw [hx, lw_x_row ws (by omega) k2 ht h53]
      refine congrArg (Prod.mk t) (List.map_congr_left fun j _ => ?_)
      show mw_i (lw_R ws k (j : Int)) = mw_i ((if (mw_T.getD k (0, 0)).1 ≠ 0 then R2 k else lw_R ws k) (j : Int))
      rw [if_neg hz]
  · subst h53
    have key : ∀ k, k < 133 → 84 ≤ k → (lw_tt.getD k (0, 0)).1 = 53 → k = 105 ∨ k = 106 := by decide
    rcases key k k2 k1 (by rw [ht]) with rfl | rfl
    · cases ht
      exact v3.1
    · cases ht
      exact v3.2
