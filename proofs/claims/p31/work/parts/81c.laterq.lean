/-! LATER of the reference in the world -/
def lw_okT (hW : ev_H) : Prop := e2_idh 0 8 (e2_gset hW 83 22 (0, 0, 0)) = true
theorem lw_el_id {c : ev_C} (h : e2_idl 0 c.2 = true) (i : Nat) : e2_idv 0 (lw_el c i) = true := by
  have key : ∀ j, e2_idv 0 (c.2.getD j (9, 0, 0)) = true := fun j => by
    rw [List.getD_eq_getElem?_getD]
    cases hq : c.2[j]? with
    | none => rfl
    | some v => exact e2_idl_ok h j v hq
  unfold lw_el
  split
  · exact key i
  · exact key 1
theorem lw_ok.T2 {ads : List Nat} {b m T T2 : Nat} {hB hW : ev_H} {F : Nat → Int} {R : Nat → Int → Int} (hBB : lw_BB hB) (hW1 : lw_W hB hW b m) (hT : lw_okT hW) (h2 : T2 < 2147483648) (h : lw_ok ads b m T hW F R) : lw_ok ads b m T2 hW (mu1 F 22 (T2 : Int)) R := by
  obtain ⟨f1, f2, f3, f4, f5, f6⟩ := h
  refine ⟨fun j hj v hv => ?_, fun k t n k1 k2 ht h53 h60 i hi => ?_, fun a ha => lw_rvN (f3 a ha) rfl, f4, f5, f6⟩
  · by_cases j22 : j = 22
    · subst j22
      rw [hW1.2.2.2.2.2.2.1 22 (by omega) (by omega), hBB.2.2.2.1] at hv
      cases hv
      exact lw_fx.T rfl h2
    · rw [mu1_n j22]
      refine lw_rvN (f1 j hj v hv) ?_
      have : e2_idl 0 (ev_hg (e2_gset hW 83 22 (0, 0, 0)) 83).2 = true := e2_idh_ok 8 _ hT 83
      rw [e2_gset_at (by omega) (by omega), if_pos rfl] at this
      exact e2_idl_ok this j v (by show ((ev_hg hW 83).2.set 22 (0, 0, 0))[j]? = some v; rw [List.getElem?_set, if_neg (fun z => j22 z.symm)]; exact hv)
  · have : e2_idl 0 (ev_hg (e2_gset hW 83 22 (0, 0, 0)) k).2 = true := e2_idh_ok 8 _ hT k
    rw [e2_gset_at (by omega) (by omega), if_neg (by omega)] at this
    exact lw_rvN (f2 k t n k1 k2 ht h53 h60 i hi) (lw_el_id this i)
theorem lw_ok.self {c1 : Nat → ClassId} {ads : List Nat} {ws : va_W} {b m T : Nat} {hB hW : ev_H} (hb : b < 2) (hm : m < 4) (hBB : lw_BB hB) (hW1 : lw_W hB hW b m) (h : lw_RL c1 ads ws b m hW T) : lw_ok ads b m T hW (lw_F ws) (lw_R ws) :=
  lw_keep hb hm hBB hW1 h (fun _ => Or.inl rfl) (fun _ _ _ => Or.inl rfl) (fun _ _ => rfl) (lw_auR h hW1.2.2.2.2.2.2.2.2.2.1 hW1.1)
theorem lw_laterQ (hen : en_ok) {lc : Launch} {c1 : Nat → ClassId} {ads : List Nat} {ws : va_W} {b m T : Nat} {hB : ev_H} {hR : Nat → Nat → ev_H} (hb : b < 2) (hm : m < 4) (hBB : lw_BB hB) (hW : ∀ b m, b < 2 → m < 4 → lw_W hB (hR b m) b m) (hT : lw_okT (hR b m)) (h : lw_RL c1 ads ws b m (hR b m) T) (hT1 : T ≤ 100000) {y : Int} (hy : -2147483648 ≤ y ∧ y < 2147483648) : sy_C lc 2 280 [(2, 83, 0), mw_i y] [] (lw_x ws) (fun v _ h' => (v = mw_i (-1) ∧ ¬ lw_g T y ∧ lw_Q ads T hR ws v h') ∨ (v = mw_i (T + y) ∧ lw_g T y ∧ lw_Q ads (T + y.toNat) hR ws v h')) := by
  have hW1 := hW b m hb hm
  obtain ⟨n1, n2, n3, n4, n5, n6, n7⟩ := lw_num hb hm hBB hW1 h
  have hok := lw_ok.self hb hm hBB hW1 h
  refine sy_C.mono (lw_laterR hen (lw_x_83 ws) (T := (T : Int)) (by rw [lw_F_to rfl, n6]) (by omega) hy) (Nat.le_refl _) fun v E' h' hp => ?_
  rcases hp with ⟨rfl, rfl, hz⟩ | ⟨rfl, rfl, hz⟩
  · exact Or.inl ⟨rfl, hz, ⟨_, rfl⟩, fun _ _ => rfl, b, m, _, _, _, hb, hm, lw_x_E ws, hok⟩
  · have hz1 := hz.1
    have hz2 := hz.2.2
    have e : (T : Int) + y = ((T + y.toNat : Nat) : Int) := by omega
    refine Or.inr ⟨rfl, hz, ⟨_, rfl⟩, fun k hk => rd_g (by omega) (by omega) (by omega) rfl, b, m, mu1 (lw_F ws) 22 ((T + y.toNat : Nat) : Int), lw_N ws, lw_R ws, hb, hm, lw_E_of (ws := ws) ?_ (fun k k1 k2 => Or.inl ⟨rd_g (by omega) k2 (by omega) rfl, rfl⟩), hok.T2 hBB hW1 hT (by omega)⟩
    rw [rd_e (by omega), e]
    refine congrArg (Prod.mk 10) (List.ext_getElem? fun j => ?_)
    rw [List.getElem?_set]
    by_cases j22 : 22 = j
    · subst j22
      rw [if_pos rfl, if_pos (show 22 < (lw_o (lw_F ws) (lw_N ws)).length by unfold lw_o; rw [List.length_map, List.length_zipIdx, lw_tf_len]; omega), lw_F_to rfl]
      rfl
    · rw [if_neg j22]
      unfold lw_o
      rw [List.getElem?_map, List.getElem?_map, List.getElem?_zipIdx]
      cases lw_tf[j]? with
      | none => rfl
      | some q =>
        show some _ = some _
        refine congrArg some ?_
        show (if q = 0 then mw_i (lw_F ws (0 + j)) else if q = 1 then (4, lw_N ws, 0) else (2, q, 0)) = (if q = 0 then mw_i (mu1 (lw_F ws) 22 ((T + y.toNat : Nat) : Int) (0 + j)) else if q = 1 then (4, lw_N ws, 0) else (2, q, 0))
        rw [Nat.zero_add, mu1_n (fun z => j22 z.symm)]
