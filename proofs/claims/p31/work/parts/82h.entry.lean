/-! THE LAW FROM ITS ENTRY: new, and the constructors -/
def lw_eA (c1 : Nat → ClassId) : ev_cA := (c1, fun _ => .inr (0, []))
theorem lwi_4 : ev_ok1 ev_MT R_law false none 4 (.invokespecial 9) 3 12 0 0 0 [1021, 1023, 1001, 1022] = true := by decide +kernel
theorem lwi_12 : ev_ok1 ev_MT R_law false none 12 (.invokespecial 12) 3 13 0 0 0 [5208, 5210, 1012, 5209] = true := by decide +kernel
theorem lwn_0 : ev_ok1 ev_MT R_law false none 0 (.new 7) 3 9 9 0 0 [1019, 1020, 1001] = true := by decide +kernel
theorem lwn_8 : ev_ok1 ev_MT R_law false none 8 (.new 10) 3 10 80 0 0 [5206, 5207, 1012] = true := by decide +kernel
theorem lwt_0 : Cond.instantiable "MeadowSigns$Formula" 4 ∈ en_WS := ev_w_in (ws := [1034]) (n := 0) (by decide +kernel)
theorem lwt_1 : Cond.instantiable "MeadowSigns$Hearsay" 8 ∈ en_WS := ev_w_in (ws := [2150]) (n := 0) (by decide +kernel)
theorem lwt_2 : Cond.instantiable "MeadowSigns$History" 6 ∈ en_WS := ev_w_in (ws := [2014]) (n := 0) (by decide +kernel)
theorem lwt_3 : Cond.instantiable "MeadowSigns$Parser" 8 ∈ en_WS := ev_w_in (ws := [1149]) (n := 0) (by decide +kernel)
theorem lwt_4 : Cond.instantiable "MeadowSigns$Planner" 14 ∈ en_WS := ev_w_in (ws := [2098]) (n := 0) (by decide +kernel)
theorem lwt_5 : Cond.instantiable "MeadowSigns$Reader" 15 ∈ en_WS := ev_w_in (ws := [2041]) (n := 0) (by decide +kernel)
theorem lwt_6 : Cond.instantiable "MeadowSigns$State" 6 ∈ en_WS := ev_w_in (ws := [1221]) (n := 0) (by decide +kernel)
theorem lwt_7 : Cond.instantiable "MeadowSigns$Tape" 8 ∈ en_WS := ev_w_in (ws := [1155]) (n := 0) (by decide +kernel)
theorem lwt_8 : Cond.instantiable "MeadowSigns$Told" 18 ∈ en_WS := ev_w_in (ws := [1028]) (n := 0) (by decide +kernel)
theorem lwt_9 : Cond.instantiable "MeadowSigns" 9 ∈ en_WS := ev_w_in (ws := [1020]) (n := 0) (by decide +kernel)
theorem lwt_10 : Cond.instantiable "MeadowSignsModel" 80 ∈ en_WS := ev_w_in (ws := [5207]) (n := 0) (by decide +kernel)
theorem lwt_all : ∀ q ∈ en_classes, Cond.instantiable q.1 q.2.2 ∈ en_WS := by
  intro q hq
  simp only [en_classes, List.mem_cons, List.not_mem_nil, or_false] at hq
  rcases hq with rfl | rfl | rfl | rfl | rfl | rfl | rfl | rfl | rfl | rfl | rfl
  · exact lwt_0
  · exact lwt_1
  · exact lwt_2
  · exact lwt_3
  · exact lwt_4
  · exact lwt_5
  · exact lwt_6
  · exact lwt_7
  · exact lwt_8
  · exact lwt_9
  · exact lwt_10
theorem lwa_int : Cond.arrayClass .int ∈ en_WS := ev_w_in (ws := [1053]) (n := 0) (by decide +kernel)
theorem lwa_byte : Cond.arrayClass .byte ∈ en_WS := ev_w_in (ws := [1191]) (n := 0) (by decide +kernel)
theorem lwa_boolean : Cond.arrayClass .boolean ∈ en_WS := ev_w_in (ws := [2182]) (n := 0) (by decide +kernel)
theorem lwa_long : Cond.arrayClass .long ∈ en_WS := ev_w_in (ws := [1052]) (n := 0) (by decide +kernel)
section LawStart
variable {p : Program} {l : Launch} {e : Env} {s : State} {m : MethodId} {below : List Frame} {meth : Method} {c : Code} {b L : Nat} {xs : Nat → Int32} {D : va_G} {c1 : Nat → ClassId} {Q : State → Prop}
theorem lw_init (hcx : lw_cx p s m c b L xs D (lw_no c1)) {pc idx k n : Nat} {ws0 : List Nat} (hok : ev_ok1 ev_MT R_law false none pc (.invokespecial idx) 3 k n 0 0 ws0 = true) (hdg : decode code pc = .ok (.invokespecial idx, 3)) {as : List ev_V} {a0 fuel ns nc : Nat} {h : ev_H} {res : ev_V × Nat × Nat × ev_H} (hres : ev_exec ev_XT fuel 20 k ((2, a0, 0) :: as) ns nc h = some res) (h9 : res.1.1 = 9)
    {ads : List Nat} {ws : va_W} {H : Heap} {locs : List Loc} {ls : Array Slot} {rest As : List Value} {bq cells slots : Nat} (hwo : ev_wo D (lw_eA c1) (fun q => s.heap.size ≤ q) ads ws nc h H) (hS : va_S (fun q => s.heap.size ≤ q) s.heap H locs) (hAs : ev_relS ads as As) (hbq : ads[a0]? = some bq) (hn : As.length = n) (hls : ls.size = 4) (hsum : rest.length ≤ 4) (hr1 : cells + (res.2.2.1 - nc) ≤ 600000) (hr2 : slots + (res.2.1 - ns) ≤ 7302250)
    (kk : ∀ (ads' : List Nat) (ws' : va_W) (H1 : Heap) (locs1 : List Loc), (∃ x, ads' = ads ++ x) → ev_wo D (lw_eA c1) (fun q => s.heap.size ≤ q) ads' ws' res.2.2.1 res.2.2.2 H1 → va_S (fun q => s.heap.size ≤ q) s.heap H1 locs1 → W p l e room_1 s m #[Value.ref b] below meth c H1 locs1 (cells + (res.2.2.1 - nc)) (slots + (res.2.1 - ns)) Q (F0 m (pc + 3) ls rest)) : W p l e room_1 s m #[Value.ref b] below meth c H locs cells slots Q (F0 m pc ls (As.reverse ++ .ref bq :: rest)) := by
  obtain ⟨hx, hb, hml, hown, hts, hX, hbl, hK, hNw, -⟩ := hcx
  have htw : ∀ w ∈ en_WS, w.before #[Value.ref b] s = true := fun w hw => hts w (List.mem_filter.mp hw).1
  simp only [ev_ok1, Bool.and_eq_true, Bool.or_eq_true, decide_eq_true_eq] at hok
  obtain ⟨-, hok⟩ := hok
  have hok := hok.resolve_left (by decide)
  rw [if_neg (by decide)] at hok
  obtain ⟨M, o1, o2, o3, o4, o5, o6, o7, o8⟩ := ev_nop_ok hok
  simp only [Bool.and_eq_true, decide_eq_true_eq] at o2
  obtain ⟨o2, o9, o10⟩ := o2
  obtain ⟨m1, m2, hmet⟩ := ev_exec_ok en_all ev_MT_ok l 20 k M o1 _ _ _ _ _ hres
  have hM := hmet D (lw_eA c1) ads ws (.ref bq :: As) H.size ⟨ev_rel.at 0 hbq, hAs⟩
  have hAA : ∀ x, va_A ws H.size x → s.heap.size ≤ x := by
    intro x hx
    rcases hx with ⟨k', en, hk⟩ | hx
    · exact hwo.2.2.2.2.2.2 k' _ hk
    · exact Nat.le_trans hS.1 hx
  have cw : CallB room_1 s #[Value.ref b] R_law idx M.1 M.2.1 M.2.2.1 M.2.2.2 (ev_ws M) (ev_rm 20 (res.2.2.1 - nc) (res.2.1 - ns)) (res.2.2.1 - nc) (res.2.1 - ns) n :=
    callB_of n htw (ev_goodIn o5) rfl rfl rfl (htw _ o6) (htw _ (o4 (by decide))) o7 ⟨by show 20 + 1 ≤ 2048; decide, by show 8 + (M.2.2.1 + 11) + 60 * 20 ≤ 84000; omega⟩
  rw [o10] at cw
  have hrun := va_runI (e := e) (below := below) (meth := meth) (locs := locs) (g := F0 m pc ls (As.reverse ++ .ref bq :: rest)) (cells := cells) (slots := slots) ⟨hx, hb, hml, hown, htw⟩ hM ⟨cw, o9, htw _ (ev_w_in o2)⟩ ⟨ev_Pc.blind, fun U hU hW => ⟨rfl, by rw [hU], by rw [hU]; exact hwo.any (fun _ _ _ _ => trivial), va_K.moved hW.alike hK, hNw.warm hW⟩⟩ rfl hn hls rfl (by show 2 * 0 + _ ≤ 8; have := ev_sum8 hsum; omega) hdg ⟨hr1, hr2⟩
  refine ev_call hrun (A1 := va_A ws H.size) (fun st oc t hq => hq.2) hS hAA hAA ?_
  intro v st t locs1 hqa hvm hS1
  obtain ⟨⟨ads', ws', v', hv, hpre, hwo', hret⟩, -⟩ := hqa
  cases hv
  rcases hret with ⟨-, rfl⟩ | ⟨z, -⟩
  · exact kk ads' ws' _ locs1 hpre (hwo'.any (fun k x _ hx => hAA _ hx)) hS1
  · exact absurd h9 z
theorem lw_new (hcx : lw_cx p s m c b L xs D (lw_no c1)) {pc idx ci N : Nat} {C : String} {T : u_T} {ws0 : List Nat} (hq : en_classes[ci]? = some (C, T, N)) (hok : ev_ok1 ev_MT R_law false none pc (.new idx) 3 ci N 0 0 ws0 = true) (hdg : decode code pc = .ok (.new idx, 3))
    {ads : List Nat} {ws : va_W} {H : Heap} {locs : List Loc} {ls : Array Slot} {rest : List Value} {nc cells slots : Nat} {h : ev_H} (hwo : ev_wo D (lw_eA c1) (fun q => s.heap.size ≤ q) ads ws nc h H) (hnc : nc < 256) (hS : va_S (fun q => s.heap.size ≤ q) s.heap H locs) (hr1 : cells + 1 ≤ 600000) (hr2 : slots + N ≤ 7302250)
    (kk : ∀ (q : Nat) (ws' : va_W) (H1 : Heap), ev_wo D (lw_eA c1) (fun q => s.heap.size ≤ q) (ads ++ [q]) ws' (nc + 1) (ev_hs h nc (ci, ev_blank.getD ci [])) H1 → va_S (fun q => s.heap.size ≤ q) s.heap H1 locs → W p l e room_1 s m #[Value.ref b] below meth c H1 locs (cells + 1) (slots + N) Q (F0 m (pc + 3) ls (.ref q :: rest))) : W p l e room_1 s m #[Value.ref b] below meth c H locs cells slots Q (F0 m pc ls rest) := by
  obtain ⟨hx, hb, hml, hown, hts, hX, hbl, hK, hNw, -⟩ := hcx
  have htw : ∀ w ∈ en_WS, w.before #[Value.ref b] s = true := fun w hw => hts w (List.mem_filter.mp hw).1
  simp only [ev_ok1, Bool.and_eq_true, Bool.or_eq_true, decide_eq_true_eq] at hok
  obtain ⟨-, hok⟩ := hok
  have hok := hok.resolve_left (by decide)
  rw [hq] at hok
  simp only [Bool.and_eq_true, decide_eq_true_eq, List.all_eq_true, List.mem_range] at hok
  obtain ⟨⟨o1, o2, o3⟩, o4, o5, o6, o7⟩ := hok
  obtain ⟨e1, e2, e3⟩ := en_all _ (List.mem_of_getElem? hq)
  have hv : ∀ j, j < N → ((List.range N).map (fun j => defaultValue (en_ty (C, T, N) j)))[j]? = some (defaultValue (en_ty (C, T, N) j)) := by
    intro j hj
    rw [List.getElem?_map, List.getElem?_range hj]
    rfl
  refine va_new hx hb htw e1 (en_ty (C, T, N)) e2 hown (htw _ (ev_w_in o4)) (htw _ (ev_w_in o5)) (htw _ (ev_w_in o6)) hK hwo.2.2.2.2.1 hwo.2.2.2.2.2 hS (fun q hq => hq) hq (fs := (List.range N).map (fun j => defaultValue (en_ty (C, T, N) j))) (fun j hj => ?_) hr1 hr2 hdg fun q H1 hP hD hS1 => ?_
  · unfold vp_V
    rw [List.getD_eq_getElem?_getD, hv j hj]
    rfl
  · refine kk q _ H1 (hwo.push hnc _ _ (Or.inl ⟨o1, _, rfl, by rw [List.length_map, List.length_range]; exact o3.symm, fun j v hj => ?_⟩) hP hD) hS1
    have hjl : j < N := by have := (List.getElem?_eq_some_iff.mp hj).1; omega
    obtain ⟨z1, z2⟩ := o7 j hjl
    rw [hj] at z1
    cases z1
    exact ⟨_, hv j hjl, ev_dflt (e2 j hjl) z2 ads⟩
end LawStart
