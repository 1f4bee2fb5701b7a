/-! isOpen(set) and duel(..) on the fresh object, for any arguments -/
section EvActT
variable {l : Launch} {M : ev_M} {d ns nc : Nat} {v' : ev_V} {h' : ev_H} {p : Program} {e : Env} {s : State} {m : MethodId} {args : Array Value} {below : List Frame} {meth : Method} {c : Code} {D : va_G} {cA : ev_cA} {ads : List Nat} {A : Nat → Prop} {Q : State → Prop}
theorem ev_act_toT (ha : ev_act l M d ns nc v' h' p e s m args below meth c D cA ads A Q) {call : ev_Call} (hcall : ∀ k M, ev_MT[k]? = some M → ∀ as ns nc h r, call k as ns nc h = some r → ev_Met l M d as ns nc h r) {C : List ev_I} (hC : ev_okL ev_MT M.1.cls (M.1.name == "<init>") M.2.2.2 M.2.1 C) {X : List ev_X} (hX : X = C.map ev_x) (t : Nat) {fuel bp : Nat} {al st al' st' : List ev_V} {h h1 : ev_H}
    (hrun : ev_runB call X bp al' st' fuel (ev_seek X t) al st ns nc h = some ((8, 7, 7), ns, nc, h1)) {ads1 : List Nat} {ws : va_W} {H : Heap} {locs : List Loc} {ls : Array Slot} {vs : List Value} (hp : ∃ x, ads1 = ads ++ x) (hwo : ev_wo D cA A ads1 ws nc h H) (hS : va_S A s.heap H locs) (hfr : ev_fr ads1 M.2.2.1 al ls) (hst : ev_relS ads1 st vs)
    (hW : ∀ (ads2 : List Nat) (ws : va_W) (H : Heap) (locs : List Loc) (ls : Array Slot) (vs : List Value), (∃ x, ads2 = ads ++ x) → ev_wo D cA A ads2 ws nc h1 H → va_S A s.heap H locs → ev_fr ads2 M.2.2.1 al' ls → ev_relS ads2 st' vs → W p l e (ev_rm (d + 1) 0 0) s m args below meth c H locs 0 0 Q (F0 m bp ls vs)) : W p l e (ev_rm (d + 1) 0 0) s m args below meth c H locs 0 0 Q (F0 m t ls vs) := by
  subst hX
  obtain ⟨E, e1, e2, e3⟩ := ev_seek_ok t C hC
  rw [e1] at hrun
  cases E with
  | nil => cases fuel <;> exact absurd hrun (by simp [ev_runB])
  | cons x r =>
    have := ev_act_to ha hcall hC e2 rfl hrun hp hwo hS hfr hst hW
    rw [e3 x r rfl] at this
    exact this
theorem ev_act_endT (ha : ev_act l M d ns nc v' h' p e s m args below meth c D cA ads A Q) {call : ev_Call} (hcall : ∀ k M, ev_MT[k]? = some M → ∀ as ns nc h r, call k as ns nc h = some r → ev_Met l M d as ns nc h r) {C : List ev_I} (hC : ev_okL ev_MT M.1.cls (M.1.name == "<init>") M.2.2.2 M.2.1 C) {X : List ev_X} (hX : X = C.map ev_x) (t : Nat) {fuel : Nat} {al st : List ev_V} {h : ev_H} {v : ev_V}
    (hrun : ev_run call X fuel (ev_seek X t) al st ns nc h = some (v, ns, nc, h')) (hv : ∀ (ads : List Nat) (w : Value), ev_rel ads v w → ev_rel ads v' w) (h9 : v.1 = 9 ↔ v'.1 = 9) {ads1 : List Nat} {ws : va_W} {H : Heap} {locs : List Loc} {ls : Array Slot} {vs : List Value} (hp : ∃ x, ads1 = ads ++ x) (hwo : ev_wo D cA A ads1 ws nc h H) (hS : va_S A s.heap H locs) (hfr : ev_fr ads1 M.2.2.1 al ls) (hst : ev_relS ads1 st vs) : W p l e (ev_rm (d + 1) 0 0) s m args below meth c H locs 0 0 Q (F0 m t ls vs) := by
  subst hX
  obtain ⟨E, e1, e2, e3⟩ := ev_seek_ok t C hC
  rw [e1] at hrun
  cases E with
  | nil => cases fuel <;> exact absurd hrun (by simp [ev_run])
  | cons x r =>
    have := ev_act_end ha hcall hC e2 rfl hrun hv h9 hp hwo hS hfr hst
    rw [e3 x r rfl] at this
    exact this
end EvActT
/-- an answer (v, ns, nc, h), compared -/
noncomputable def ev_isV (r : ev_R) (v : ev_V) (ns nc : Nat) (h : ev_H) : Bool := Option.rec (motive := fun _ => Bool) false (fun q => ev_veq q.1 v && (Nat.beq q.2.1 ns && (Nat.beq q.2.2.1 nc && ev_teq 8 q.2.2.2 h))) r
theorem ev_isV_ok {r : ev_R} {v : ev_V} {ns nc : Nat} {h : ev_H} (hh : ev_isV r v ns nc h = true) : r = some (v, ns, nc, h) := by
  cases r with
  | none => exact absurd hh (by simp [ev_isV])
  | some q =>
    obtain ⟨v1, a, b, g⟩ := q
    have hh' : (ev_veq v1 v && (Nat.beq a ns && (Nat.beq b nc && ev_teq 8 g h))) = true := hh
    simp only [Bool.and_eq_true] at hh'
    obtain ⟨h1, h2, h3, h4⟩ := hh'
    rw [ev_veq_ok h1, show a = ns from Nat.eq_of_beq_eq_true h2, show b = nc from Nat.eq_of_beq_eq_true h3, ev_teq_ok 8 g h h4]
abbrev ev_MO : ev_M := ((⟨"MeadowSigns", "isOpen", "(I)Z"⟩, prog_1_method_44_code, 2, some .boolean) : ev_M)
abbrev ev_MD : ev_M := ((⟨"MeadowSigns", "duel", "(IIII)I"⟩, prog_1_method_27_code, 6, some .int) : ev_M)
noncomputable abbrev ev_c18 : ev_Call := ev_exec ev_XT 2000 18
set_option maxRecDepth 1000000 in
theorem io_0 : ev_isV (ev_runB ev_c18 evx_106 8 [(2, 0, 0), (1, 0, 4294967295)] [(1, 0, 4294967295)] 100 (ev_seek evx_106 0) [(2, 0, 0), (1, 0, 4294967295)] [] 14699 133 ev_h0) (8, 7, 7) 14699 133 ev_h0 = true := by decide +kernel
set_option maxRecDepth 1000000 in
theorem io_1 : ev_isV (ev_run ev_c18 evx_106 100 (ev_seek evx_106 11) [(2, 0, 0), (1, 0, 4294967295)] [] 14699 133 ev_h0) (0, 1, 0) 14699 133 ev_h0 = true := by decide +kernel
set_option maxRecDepth 1000000 in
theorem io_2 : ev_isV (ev_run ev_c18 evx_106 100 (ev_seek evx_106 15) [(2, 0, 0), (1, 0, 4294967295)] [] 14699 133 ev_h0) (0, 0, 0) 14699 133 ev_h0 = true := by decide +kernel
theorem dO_8 : decode prog_1_method_44_code 8 = .ok (.ifCond .ne 7, 3) := by decide +kernel
theorem rel_01 {u : Nat} (hu : u = 0 ∨ u = 1) (ads : List Nat) (w : Value) (h : ev_rel ads (0, u, 0) w) : ev_rel ads (1, 2147483648, 2147483649) w := by
  obtain ⟨x, rfl, hx, -⟩ := h.int (Nat.zero_le _)
  rw [hx rfl]
  rcases hu with rfl | rfl
  · exact Or.inr (Or.inl ⟨rfl, _, rfl, by decide +kernel, by decide +kernel⟩)
  · exact Or.inr (Or.inl ⟨rfl, _, rfl, by decide +kernel, by decide +kernel⟩)
theorem mo_isOpen (l : Launch) : ev_Met l ev_MO 19 [(2, 0, 0), (1, 0, 4294967295)] 14699 133 ev_h0 ((1, 2147483648, 2147483649), 14699, 133, ev_h0) := by
  refine ev_Met_of (d := 18) (by decide +kernel) (by decide) (by decide) ?_
  intro p e s m args below meth c D cA ads ws ls A Q ha hwo hS hfr
  have hcall : ∀ k M, ev_MT[k]? = some M → ∀ as ns nc h r, ev_c18 k as ns nc h = some r → ev_Met l M 18 as ns nc h r := fun k M hk as ns nc h r hr => ev_exec_ok en_all ev_MT_ok l 18 k M hk as ns nc h r hr
  have hC : ev_okL ev_MT ev_MO.1.cls (ev_MO.1.name == "<init>") ev_MO.2.2.2 ev_MO.2.1 evc_106 := ev_chk_ok _ ek_106
  refine ev_act_toT ha hcall hC ex_106 0 (ev_isV_ok io_0) ⟨[], by simp⟩ hwo hS hfr trivial ?_
  intro ads2 ws H locs ls vs hp hwo hS hfr hst
  have hq := hst.cons
  clear hst
  obtain ⟨w, vs, rfl, q2, hst⟩ := hq
  have hv := hst.nil
  subst hv
  obtain ⟨y, rfl, -⟩ := q2.int (Nat.le_refl 1)
  obtain ⟨hx, hb, -⟩ := ha.1 (0, 0, 0) ev_h0
  refine lv_if_ne (tgt := 15) hx hb dO_8 (by decide) (fun _ => ?_) (fun _ => ?_)
  · exact ev_act_endT ha hcall hC ex_106 15 (ev_isV_ok io_2) (rel_01 (Or.inl rfl)) (by decide) hp hwo hS hfr trivial
  · exact ev_act_endT ha hcall hC ex_106 11 (ev_isV_ok io_1) (rel_01 (Or.inr rfl)) (by decide) hp hwo hS hfr trivial
/-- calls, with isOpen answered by its contract -/
noncomputable def ev_cO : ev_Call := fun k as ns nc h => Bool.rec (motive := fun _ => ev_R) (ev_exec ev_XT 2000 19 k as ns nc h) (ev_if (ev_leq as [(2, 0, 0), (1, 0, 4294967295)]) (ev_if (Nat.beq ns 14699) (ev_if (Nat.beq nc 133) (ev_if (ev_teq 8 h ev_h0) (some ((1, 2147483648, 2147483649), 14699, 133, ev_h0)))))) (Nat.beq k 106)
theorem ev_cO_ok (l : Launch) : ∀ k M, ev_MT[k]? = some M → ∀ as ns nc h r, ev_cO k as ns nc h = some r → ev_Met l M 19 as ns nc h r := by
  intro k M hk as ns nc h r hr
  have hr' : Bool.rec (motive := fun _ => ev_R) (ev_exec ev_XT 2000 19 k as ns nc h) (ev_if (ev_leq as [(2, 0, 0), (1, 0, 4294967295)]) (ev_if (Nat.beq ns 14699) (ev_if (Nat.beq nc 133) (ev_if (ev_teq 8 h ev_h0) (some ((1, 2147483648, 2147483649), 14699, 133, ev_h0)))))) (Nat.beq k 106) = some r := hr
  cases hz : Nat.beq k 106 with
  | false =>
    rw [hz] at hr'
    exact ev_exec_ok en_all ev_MT_ok l 19 k M hk as ns nc h r hr'
  | true =>
    rw [hz] at hr'
    obtain ⟨z1, h1⟩ := ev_if_some hr'
    obtain ⟨z2, h2⟩ := ev_if_some h1
    obtain ⟨z3, h3⟩ := ev_if_some h2
    obtain ⟨z4, h4⟩ := ev_if_some h3
    cases h4
    rw [ev_leq_ok z1, Nat.eq_of_beq_eq_true z2, Nat.eq_of_beq_eq_true z3, ev_teq_ok 8 _ _ z4]
    rw [Nat.eq_of_beq_eq_true hz] at hk
    have hM : M = ev_MO := Option.some.inj (hk.symm.trans rfl)
    rw [hM]
    exact mo_isOpen l
theorem dD_5 : decode prog_1_method_27_code 5 = .ok (.ifCond .eq 29, 3) := by decide +kernel
theorem dD_13 : decode prog_1_method_27_code 13 = .ok (.ifCond .eq 21, 3) := by decide +kernel
theorem dD_17 : decode prog_1_method_27_code 17 = .ok (.ifCond .eq 17, 3) := by decide +kernel
theorem dD_21 : decode prog_1_method_27_code 21 = .ok (.ifCond .eq 13, 3) := by decide +kernel
theorem dD_27 : decode prog_1_method_27_code 27 = .ok (.ifCond .ne 7, 3) := by decide +kernel
set_option maxRecDepth 1000000 in
theorem du_n_0 : ev_isV (ev_runB ev_cO evx_90 5 [(2, 0, 0), (1, 0, 2147483647), (1, 0, 4294967295), (1, 0, 4294967295), (1, 0, 4294967295), (9, 0, 0)] [(1, 2147483648, 2147483649)] 100 (ev_seek evx_90 0) [(2, 0, 0), (1, 0, 2147483647), (1, 0, 4294967295), (1, 0, 4294967295), (1, 0, 4294967295), (9, 0, 0)] [] 14699 133 ev_h0) (8, 7, 7) 14699 133 ev_h0 = true := by decide +kernel
set_option maxRecDepth 1000000 in
theorem du_n_8 : ev_isV (ev_runB ev_cO evx_90 13 [(2, 0, 0), (1, 0, 2147483647), (1, 0, 4294967295), (1, 0, 4294967295), (1, 0, 4294967295), (9, 0, 0)] [(1, 2147483648, 2147483649)] 100 (ev_seek evx_90 8) [(2, 0, 0), (1, 0, 2147483647), (1, 0, 4294967295), (1, 0, 4294967295), (1, 0, 4294967295), (9, 0, 0)] [] 14699 133 ev_h0) (8, 7, 7) 14699 133 ev_h0 = true := by decide +kernel
set_option maxRecDepth 1000000 in
theorem du_n_16 : ev_isV (ev_runB ev_cO evx_90 17 [(2, 0, 0), (1, 0, 2147483647), (1, 0, 4294967295), (1, 0, 4294967295), (1, 0, 4294967295), (9, 0, 0)] [(1, 0, 4294967295)] 100 (ev_seek evx_90 16) [(2, 0, 0), (1, 0, 2147483647), (1, 0, 4294967295), (1, 0, 4294967295), (1, 0, 4294967295), (9, 0, 0)] [] 14699 133 ev_h0) (8, 7, 7) 14699 133 ev_h0 = true := by decide +kernel
set_option maxRecDepth 1000000 in
theorem du_n_20 : ev_isV (ev_runB ev_cO evx_90 21 [(2, 0, 0), (1, 0, 2147483647), (1, 0, 4294967295), (1, 0, 4294967295), (1, 0, 4294967295), (9, 0, 0)] [(1, 0, 4294967295)] 100 (ev_seek evx_90 20) [(2, 0, 0), (1, 0, 2147483647), (1, 0, 4294967295), (1, 0, 4294967295), (1, 0, 4294967295), (9, 0, 0)] [] 14699 133 ev_h0) (8, 7, 7) 14699 133 ev_h0 = true := by decide +kernel
set_option maxRecDepth 1000000 in
theorem du_n_24 : ev_isV (ev_runB ev_cO evx_90 27 [(2, 0, 0), (1, 0, 2147483647), (1, 0, 4294967295), (1, 0, 4294967295), (1, 0, 4294967295), (9, 0, 0)] [(1, 0, 4294967295)] 100 (ev_seek evx_90 24) [(2, 0, 0), (1, 0, 2147483647), (1, 0, 4294967295), (1, 0, 4294967295), (1, 0, 4294967295), (9, 0, 0)] [] 14699 133 ev_h0) (8, 7, 7) 14699 133 ev_h0 = true := by decide +kernel
set_option maxRecDepth 1000000 in
theorem du_n_34 : ev_isV (ev_run ev_cO evx_90 100 (ev_seek evx_90 34) [(2, 0, 0), (1, 0, 2147483647), (1, 0, 4294967295), (1, 0, 4294967295), (1, 0, 4294967295), (9, 0, 0)] [] 14699 133 ev_h0) (0, 4294957296, 0) 14699 133 ev_h0 = true := by decide +kernel
set_option maxRecDepth 1000000 in
theorem du_n_30 : ev_isV (ev_run ev_cO evx_90 100 (ev_seek evx_90 30) [(2, 0, 0), (1, 0, 2147483647), (1, 0, 4294967295), (1, 0, 4294967295), (1, 0, 4294967295), (9, 0, 0)] [] 14699 133 ev_h0) (0, 4294957296, 0) 14699 133 ev_h0 = true := by decide +kernel
theorem mo_duel_n (l : Launch) : ev_Met l ev_MD 20 [(2, 0, 0), (1, 0, 2147483647), (1, 0, 4294967295), (1, 0, 4294967295), (1, 0, 4294967295)] 14699 133 ev_h0 ((0, 4294957296, 0), 14699, 133, ev_h0) := by
  refine ev_Met_of (d := 19) (by decide +kernel) (by decide) (by decide) ?_
  intro p e s m args below meth c D cA ads ws ls A Q ha hwo hS hfr
  have hC : ev_okL ev_MT ev_MD.1.cls (ev_MD.1.name == "<init>") ev_MD.2.2.2 ev_MD.2.1 evc_90 := ev_chk_ok _ ek_90
  have hcall := ev_cO_ok l
  obtain ⟨hx, hb, -⟩ := ha.1 (0, 0, 0) ev_h0
  have hno : ∀ (ads2 : List Nat) (ws : va_W) (H : Heap) (locs : List Loc) (ls : Array Slot), (∃ x, ads2 = ads ++ x) → ev_wo D cA A ads2 ws 133 ev_h0 H → va_S A s.heap H locs → ev_fr ads2 ev_MD.2.2.1 [(2, 0, 0), (1, 0, 2147483647), (1, 0, 4294967295), (1, 0, 4294967295), (1, 0, 4294967295), (9, 0, 0)] ls → W p l e (ev_rm (19 + 1) 0 0) s m args below meth c H locs 0 0 Q (F0 m 34 ls []) := fun ads2 ws H locs ls hp hwo hS hfr => ev_act_endT ha hcall hC ex_90 34 (ev_isV_ok du_n_34) (fun _ _ z => z) (by decide) hp hwo hS hfr trivial
  refine ev_act_toT ha hcall hC ex_90 0 (ev_isV_ok du_n_0) ⟨[], by simp⟩ hwo hS hfr trivial ?_
  clear hwo hS hfr
  intro ads2 ws H locs ls vs hp hwo hS hfr hst
  have hq := hst.cons
  clear hst
  obtain ⟨w, vs, rfl, q2, hst⟩ := hq
  have hv := hst.nil
  subst hv
  obtain ⟨y, rfl, -⟩ := q2.int (Nat.le_refl 1)
  clear hst q2
  refine lv_if_eq (tgt := 34) hx hb dD_5 (by decide) (fun _ => hno _ _ _ _ _ hp hwo hS hfr) (fun _ => ?_)
  refine ev_act_toT ha hcall hC ex_90 8 (ev_isV_ok du_n_8) hp hwo hS hfr trivial ?_
  clear hwo hS hfr
  intro ads2 ws H locs ls vs hp hwo hS hfr hst
  have hq := hst.cons
  clear hst
  obtain ⟨w, vs, rfl, q2, hst⟩ := hq
  have hv := hst.nil
  subst hv
  obtain ⟨y, rfl, -⟩ := q2.int (Nat.le_refl 1)
  clear hst q2
  refine lv_if_eq (tgt := 34) hx hb dD_13 (by decide) (fun _ => hno _ _ _ _ _ hp hwo hS hfr) (fun _ => ?_)
  refine ev_act_toT ha hcall hC ex_90 16 (ev_isV_ok du_n_16) hp hwo hS hfr trivial ?_
  clear hwo hS hfr
  intro ads2 ws H locs ls vs hp hwo hS hfr hst
  have hq := hst.cons
  clear hst
  obtain ⟨w, vs, rfl, q2, hst⟩ := hq
  have hv := hst.nil
  subst hv
  obtain ⟨y, rfl, -⟩ := q2.int (Nat.le_refl 1)
  clear hst q2
  refine lv_if_eq (tgt := 34) hx hb dD_17 (by decide) (fun _ => hno _ _ _ _ _ hp hwo hS hfr) (fun _ => ?_)
  refine ev_act_toT ha hcall hC ex_90 20 (ev_isV_ok du_n_20) hp hwo hS hfr trivial ?_
  clear hwo hS hfr
  intro ads2 ws H locs ls vs hp hwo hS hfr hst
  have hq := hst.cons
  clear hst
  obtain ⟨w, vs, rfl, q2, hst⟩ := hq
  have hv := hst.nil
  subst hv
  obtain ⟨y, rfl, -⟩ := q2.int (Nat.le_refl 1)
  clear hst q2
  refine lv_if_eq (tgt := 34) hx hb dD_21 (by decide) (fun _ => hno _ _ _ _ _ hp hwo hS hfr) (fun _ => ?_)
  refine ev_act_toT ha hcall hC ex_90 24 (ev_isV_ok du_n_24) hp hwo hS hfr trivial ?_
  clear hwo hS hfr
  intro ads2 ws H locs ls vs hp hwo hS hfr hst
  have hq := hst.cons
  clear hst
  obtain ⟨w, vs, rfl, q2, hst⟩ := hq
  have hv := hst.nil
  subst hv
  obtain ⟨y, rfl, -⟩ := q2.int (Nat.le_refl 1)
  clear hst q2
  refine lv_if_ne (tgt := 34) hx hb dD_27 (by decide) (fun _ => hno _ _ _ _ _ hp hwo hS hfr) (fun _ => ?_)
  exact ev_act_endT ha hcall hC ex_90 30 (ev_isV_ok du_n_30) (fun _ _ z => z) (by decide) hp hwo hS hfr trivial
set_option maxRecDepth 1000000 in
theorem mm_duel_n : ev_isV (ev_exec ev_XT 2000 20 170 [(2, 83, 0), (1, 0, 2147483647), (1, 0, 4294967295), (1, 0, 4294967295), (1, 0, 4294967295)] 14699 133 ev_h0) (0, 4294957296, 0) 14699 133 ev_h0 = true := by decide +kernel
set_option maxRecDepth 1000000 in
theorem du_p_0 : ev_isV (ev_runB ev_cO evx_90 5 [(2, 0, 0), (1, 2147483648, 4294967295), (1, 0, 4294967295), (1, 0, 4294967295), (1, 0, 4294967295), (9, 0, 0)] [(1, 2147483648, 2147483649)] 100 (ev_seek evx_90 0) [(2, 0, 0), (1, 2147483648, 4294967295), (1, 0, 4294967295), (1, 0, 4294967295), (1, 0, 4294967295), (9, 0, 0)] [] 14699 133 ev_h0) (8, 7, 7) 14699 133 ev_h0 = true := by decide +kernel
set_option maxRecDepth 1000000 in
theorem du_p_8 : ev_isV (ev_runB ev_cO evx_90 13 [(2, 0, 0), (1, 2147483648, 4294967295), (1, 0, 4294967295), (1, 0, 4294967295), (1, 0, 4294967295), (9, 0, 0)] [(1, 2147483648, 2147483649)] 100 (ev_seek evx_90 8) [(2, 0, 0), (1, 2147483648, 4294967295), (1, 0, 4294967295), (1, 0, 4294967295), (1, 0, 4294967295), (9, 0, 0)] [] 14699 133 ev_h0) (8, 7, 7) 14699 133 ev_h0 = true := by decide +kernel
set_option maxRecDepth 1000000 in
theorem du_p_16 : ev_isV (ev_runB ev_cO evx_90 17 [(2, 0, 0), (1, 2147483648, 4294967295), (1, 0, 4294967295), (1, 0, 4294967295), (1, 0, 4294967295), (9, 0, 0)] [(1, 0, 4294967295)] 100 (ev_seek evx_90 16) [(2, 0, 0), (1, 2147483648, 4294967295), (1, 0, 4294967295), (1, 0, 4294967295), (1, 0, 4294967295), (9, 0, 0)] [] 14699 133 ev_h0) (8, 7, 7) 14699 133 ev_h0 = true := by decide +kernel
set_option maxRecDepth 1000000 in
theorem du_p_20 : ev_isV (ev_runB ev_cO evx_90 21 [(2, 0, 0), (1, 2147483648, 4294967295), (1, 0, 4294967295), (1, 0, 4294967295), (1, 0, 4294967295), (9, 0, 0)] [(1, 0, 4294967295)] 100 (ev_seek evx_90 20) [(2, 0, 0), (1, 2147483648, 4294967295), (1, 0, 4294967295), (1, 0, 4294967295), (1, 0, 4294967295), (9, 0, 0)] [] 14699 133 ev_h0) (8, 7, 7) 14699 133 ev_h0 = true := by decide +kernel
set_option maxRecDepth 1000000 in
theorem du_p_24 : ev_isV (ev_runB ev_cO evx_90 27 [(2, 0, 0), (1, 2147483648, 4294967295), (1, 0, 4294967295), (1, 0, 4294967295), (1, 0, 4294967295), (9, 0, 0)] [(1, 0, 4294967295)] 100 (ev_seek evx_90 24) [(2, 0, 0), (1, 2147483648, 4294967295), (1, 0, 4294967295), (1, 0, 4294967295), (1, 0, 4294967295), (9, 0, 0)] [] 14699 133 ev_h0) (8, 7, 7) 14699 133 ev_h0 = true := by decide +kernel
set_option maxRecDepth 1000000 in
theorem du_p_34 : ev_isV (ev_run ev_cO evx_90 100 (ev_seek evx_90 34) [(2, 0, 0), (1, 2147483648, 4294967295), (1, 0, 4294967295), (1, 0, 4294967295), (1, 0, 4294967295), (9, 0, 0)] [] 14699 133 ev_h0) (0, 4294957296, 0) 14699 133 ev_h0 = true := by decide +kernel
set_option maxRecDepth 1000000 in
theorem du_p_30 : ev_isV (ev_run ev_cO evx_90 100 (ev_seek evx_90 30) [(2, 0, 0), (1, 2147483648, 4294967295), (1, 0, 4294967295), (1, 0, 4294967295), (1, 0, 4294967295), (9, 0, 0)] [] 14699 133 ev_h0) (0, 4294957296, 0) 14699 133 ev_h0 = true := by decide +kernel
theorem mo_duel_p (l : Launch) : ev_Met l ev_MD 20 [(2, 0, 0), (1, 2147483648, 4294967295), (1, 0, 4294967295), (1, 0, 4294967295), (1, 0, 4294967295)] 14699 133 ev_h0 ((0, 4294957296, 0), 14699, 133, ev_h0) := by
  refine ev_Met_of (d := 19) (by decide +kernel) (by decide) (by decide) ?_
  intro p e s m args below meth c D cA ads ws ls A Q ha hwo hS hfr
  have hC : ev_okL ev_MT ev_MD.1.cls (ev_MD.1.name == "<init>") ev_MD.2.2.2 ev_MD.2.1 evc_90 := ev_chk_ok _ ek_90
  have hcall := ev_cO_ok l
  obtain ⟨hx, hb, -⟩ := ha.1 (0, 0, 0) ev_h0
  have hno : ∀ (ads2 : List Nat) (ws : va_W) (H : Heap) (locs : List Loc) (ls : Array Slot), (∃ x, ads2 = ads ++ x) → ev_wo D cA A ads2 ws 133 ev_h0 H → va_S A s.heap H locs → ev_fr ads2 ev_MD.2.2.1 [(2, 0, 0), (1, 2147483648, 4294967295), (1, 0, 4294967295), (1, 0, 4294967295), (1, 0, 4294967295), (9, 0, 0)] ls → W p l e (ev_rm (19 + 1) 0 0) s m args below meth c H locs 0 0 Q (F0 m 34 ls []) := fun ads2 ws H locs ls hp hwo hS hfr => ev_act_endT ha hcall hC ex_90 34 (ev_isV_ok du_p_34) (fun _ _ z => z) (by decide) hp hwo hS hfr trivial
  refine ev_act_toT ha hcall hC ex_90 0 (ev_isV_ok du_p_0) ⟨[], by simp⟩ hwo hS hfr trivial ?_
  clear hwo hS hfr
  intro ads2 ws H locs ls vs hp hwo hS hfr hst
  have hq := hst.cons
  clear hst
  obtain ⟨w, vs, rfl, q2, hst⟩ := hq
  have hv := hst.nil
  subst hv
  obtain ⟨y, rfl, -⟩ := q2.int (Nat.le_refl 1)
  clear hst q2
  refine lv_if_eq (tgt := 34) hx hb dD_5 (by decide) (fun _ => hno _ _ _ _ _ hp hwo hS hfr) (fun _ => ?_)
  refine ev_act_toT ha hcall hC ex_90 8 (ev_isV_ok du_p_8) hp hwo hS hfr trivial ?_
  clear hwo hS hfr
  intro ads2 ws H locs ls vs hp hwo hS hfr hst
  have hq := hst.cons
  clear hst
  obtain ⟨w, vs, rfl, q2, hst⟩ := hq
  have hv := hst.nil
  subst hv
  obtain ⟨y, rfl, -⟩ := q2.int (Nat.le_refl 1)
  clear hst q2
  refine lv_if_eq (tgt := 34) hx hb dD_13 (by decide) (fun _ => hno _ _ _ _ _ hp hwo hS hfr) (fun _ => ?_)
  refine ev_act_toT ha hcall hC ex_90 16 (ev_isV_ok du_p_16) hp hwo hS hfr trivial ?_
  clear hwo hS hfr
  intro ads2 ws H locs ls vs hp hwo hS hfr hst
  have hq := hst.cons
  clear hst
  obtain ⟨w, vs, rfl, q2, hst⟩ := hq
  have hv := hst.nil
  subst hv
  obtain ⟨y, rfl, -⟩ := q2.int (Nat.le_refl 1)
  clear hst q2
  refine lv_if_eq (tgt := 34) hx hb dD_17 (by decide) (fun _ => hno _ _ _ _ _ hp hwo hS hfr) (fun _ => ?_)
  refine ev_act_toT ha hcall hC ex_90 20 (ev_isV_ok du_p_20) hp hwo hS hfr trivial ?_
  clear hwo hS hfr
  intro ads2 ws H locs ls vs hp hwo hS hfr hst
  have hq := hst.cons
  clear hst
  obtain ⟨w, vs, rfl, q2, hst⟩ := hq
  have hv := hst.nil
  subst hv
  obtain ⟨y, rfl, -⟩ := q2.int (Nat.le_refl 1)
  clear hst q2
  refine lv_if_eq (tgt := 34) hx hb dD_21 (by decide) (fun _ => hno _ _ _ _ _ hp hwo hS hfr) (fun _ => ?_)
  refine ev_act_toT ha hcall hC ex_90 24 (ev_isV_ok du_p_24) hp hwo hS hfr trivial ?_
  clear hwo hS hfr
  intro ads2 ws H locs ls vs hp hwo hS hfr hst
  have hq := hst.cons
  clear hst
  obtain ⟨w, vs, rfl, q2, hst⟩ := hq
  have hv := hst.nil
  subst hv
  obtain ⟨y, rfl, -⟩ := q2.int (Nat.le_refl 1)
  clear hst q2
  refine lv_if_ne (tgt := 34) hx hb dD_27 (by decide) (fun _ => hno _ _ _ _ _ hp hwo hS hfr) (fun _ => ?_)
  exact ev_act_endT ha hcall hC ex_90 30 (ev_isV_ok du_p_30) (fun _ _ z => z) (by decide) hp hwo hS hfr trivial
set_option maxRecDepth 1000000 in
theorem mm_duel_p : ev_isV (ev_exec ev_XT 2000 20 170 [(2, 83, 0), (1, 2147483648, 4294967295), (1, 0, 4294967295), (1, 0, 4294967295), (1, 0, 4294967295)] 14699 133 ev_h0) (0, 4294957296, 0) 14699 133 ev_h0 = true := by decide +kernel
