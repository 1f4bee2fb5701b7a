/-! THE LAW FROM ITS ENTRY -/
theorem lwi_4 : ev_ok1 ev_MT R_law false none 4 (.invokespecial 9) 3 64 0 0 0 [1021, 1023, 1001, 1022] = true := by decide +kernel
theorem lwi_12 : ev_ok1 ev_MT R_law false none 12 (.invokespecial 12) 3 111 0 0 0 [5208, 5210, 1012, 5209] = true := by decide +kernel
theorem lwn_0 : ev_ok1 ev_MT R_law false none 0 (.new 7) 3 9 9 0 0 [1019, 1020, 1001] = true := by decide +kernel
theorem lwn_8 : ev_ok1 ev_MT R_law false none 8 (.new 10) 3 10 80 0 0 [5206, 5207, 1012] = true := by decide +kernel
theorem lwt_0 : Cond.instantiable "MeadowSigns$Formula" 4 ∈ en_WS := ev_w_in (ws := [1034]) (n := 0) (by decide +kernel)
theorem lwt_1 : Cond.instantiable "MeadowSigns$Hearsay" 8 ∈ en_WS := ev_w_in (ws := [2150]) (n := 0) (by decide +kernel)
theorem lwt_2 : Cond.instantiable "MeadowSigns$History" 6 ∈ en_WS := ev_w_in (ws := [2014]) (n := 0) (by decide +kernel)
theorem lwt_3 : Cond.instantiable "MeadowSigns$Parser" 8 ∈ en_WS := ev_w_in (ws := [1149]) (n := 0) (by decide +kernel)
theorem lwt_4 : Cond.instantiable "MeadowSigns$Planner" 14 ∈ en_WS := ev_w_in (ws := [2098]) (n := 0) (by decide +kernel)
theorem lwt_5 : Cond.instantiable "MeadowSigns$Reader" 15 ∈ en_WS := ev_w_in (ws := [2041]) (n := 0) (by decide +kernel)
theorem lwt_6 : Cond.instantiable "MeadowSigns$State" 6 ∈ en_WS := ev_w_in (ws := [1221]) (n := 0) (by decide +kernel)
theorem lwt_7 : Cond.instantiable "MeadowSigns$Tape" 8 ∈ en_WS := ev_w_in (ws := [1155]) (n := 0) (by decide +kernel)
theorem lwt_8 : Cond.instantiable "MeadowSigns$Told" 18 ∈ en_WS := ev_w_in (ws := [1028]) (n := 0) (by decide +kernel)
theorem lwt_9 : Cond.instantiable "MeadowSigns" 9 ∈ en_WS := ev_w_in (ws := [1020]) (n := 0) (by decide +kernel)
theorem lwt_10 : Cond.instantiable "MeadowSignsModel" 80 ∈ en_WS := ev_w_in (ws := [5207]) (n := 0) (by decide +kernel)
theorem lwt_all : ∀ q ∈ en_classes, Cond.instantiable q.1 q.2.2 ∈ en_WS := by
  intro q hq
  simp only [en_classes, List.mem_cons, List.not_mem_nil, or_false] at hq
  rcases hq with rfl | rfl | rfl | rfl | rfl | rfl | rfl | rfl | rfl | rfl | rfl
  · exact lwt_0
  · exact lwt_1
  · exact lwt_2
  · exact lwt_3
  · exact lwt_4
  · exact lwt_5
  · exact lwt_6
  · exact lwt_7
  · exact lwt_8
  · exact lwt_9
  · exact lwt_10
theorem lwa_int : Cond.arrayClass .int ∈ en_WS := ev_w_in (ws := [1053]) (n := 0) (by decide +kernel)
theorem lwa_byte : Cond.arrayClass .byte ∈ en_WS := ev_w_in (ws := [1191]) (n := 0) (by decide +kernel)
theorem lwa_boolean : Cond.arrayClass .boolean ∈ en_WS := ev_w_in (ws := [2182]) (n := 0) (by decide +kernel)
theorem lwa_long : Cond.arrayClass .long ∈ en_WS := ev_w_in (ws := [1052]) (n := 0) (by decide +kernel)
section LawStart
variable {p : Program} {l : Launch} {e : Env} {s : State} {m : MethodId} {below : List Frame} {meth : Method} {c : Code} {b L : Nat} {xs : Nat → Int32} {D : va_G} {cA : ev_cA} {Q : State → Prop}
theorem lw_init (hcx : lw_cx p s m c b L xs D cA) {pc idx k n : Nat} {ws0 : List Nat} (hok : ev_ok1 ev_MT R_law false none pc (.invokespecial idx) 3 k n 0 0 ws0 = true) (hdg : decode code pc = .ok (.invokespecial idx, 3)) {as : List ev_V} {a0 fuel ns nc : Nat} {h : ev_H} {res : ev_V × Nat × Nat × ev_H} (hres : ev_exec ev_XT fuel 20 k ((2, a0, 0) :: as) ns nc h = some res) (h9 : res.1.1 = 9)
    {ads : List Nat} {ws : va_W} {H : Heap} {locs : List Loc} {ls : Array Slot} {rest As : List Value} {bq cells slots : Nat} (hwo : ev_wo D cA (fun q => s.heap.size ≤ q) ads ws nc h H) (hS : va_S (fun q => s.heap.size ≤ q) s.heap H locs) (hAs : ev_relS ads as As) (hbq : ads[a0]? = some bq) (hn : As.length = n) (hls : ls.size = 4) (hsum : rest.length ≤ 4) (hr1 : cells + (res.2.2.1 - nc) ≤ 600000) (hr2 : slots + (res.2.1 - ns) ≤ 7302250)
    (kk : ∀ (ads' : List Nat) (ws' : va_W) (H1 : Heap) (locs1 : List Loc), (∃ x, ads' = ads ++ x) → ev_wo D cA (fun q => s.heap.size ≤ q) ads' ws' res.2.2.1 res.2.2.2 H1 → va_S (fun q => s.heap.size ≤ q) s.heap H1 locs1 → W p l e room_1 s m #[Value.ref b] below meth c H1 locs1 (cells + (res.2.2.1 - nc)) (slots + (res.2.1 - ns)) Q (F0 m (pc + 3) ls rest)) : W p l e room_1 s m #[Value.ref b] below meth c H locs cells slots Q (F0 m pc ls (As.reverse ++ .ref bq :: rest)) := by
  obtain ⟨hx, hb, hml, hown, hts, hX, hbl, hK, hNw⟩ := hcx
  have htw : ∀ w ∈ en_WS, w.before #[Value.ref b] s = true := fun w hw => hts w (List.mem_filter.mp hw).1
  simp only [ev_ok1, Bool.and_eq_true, Bool.or_eq_true, decide_eq_true_eq] at hok
  obtain ⟨-, hok⟩ := hok
  have hok := hok.resolve_left (by decide)
  rw [if_neg (by decide)] at hok
  obtain ⟨M, o1, o2, o3, o4, o5, o6, o7, o8⟩ := ev_nop_ok hok
  simp only [Bool.and_eq_true, decide_eq_true_eq] at o2
  obtain ⟨o2, o9, o10⟩ := o2
  obtain ⟨m1, m2, hmet⟩ := ev_exec_ok en_all ev_MT_ok l 20 k M o1 _ _ _ _ _ hres
  have hM := hmet D cA ads ws (.ref bq :: As) H.size ⟨ev_rel.at 0 hbq, hAs⟩
  have hAA : ∀ x, va_A ws H.size x → s.heap.size ≤ x := by
    intro x hx
    rcases hx with ⟨k', en, hk⟩ | hx
    · exact hwo.2.2.2.2.2.2 k' _ hk
    · exact Nat.le_trans hS.1 hx
  have cw : CallB room_1 s #[Value.ref b] R_law idx M.1 M.2.1 M.2.2.1 M.2.2.2 (ev_ws M) (ev_rm 20 (res.2.2.1 - nc) (res.2.1 - ns)) (res.2.2.1 - nc) (res.2.1 - ns) n :=
    callB_of n htw (ev_goodIn o5) rfl rfl rfl (htw _ o6) (htw _ (o4 (by decide))) o7 ⟨by show 20 + 1 ≤ 2048; decide, by show 8 + (M.2.2.1 + 11) + 60 * 20 ≤ 84000; omega⟩
  rw [o10] at cw
  have hrun := va_runI (e := e) (below := below) (meth := meth) (locs := locs) (g := F0 m pc ls (As.reverse ++ .ref bq :: rest)) (cells := cells) (slots := slots) ⟨hx, hb, hml, hown, htw⟩ hM ⟨cw, o9, htw _ (ev_w_in o2)⟩ ⟨ev_Pc.blind, fun U hU hW => ⟨rfl, by rw [hU], by rw [hU]; exact hwo.any (fun _ _ _ _ => trivial), va_K.moved hW.alike hK, hNw.warm hW⟩⟩ rfl hn hls rfl (by show 2 * 0 + _ ≤ 8; have := ev_sum8 hsum; omega) hdg ⟨hr1, hr2⟩
  refine ev_call hrun (A1 := va_A ws H.size) (fun st oc t hq => hq.2) hS hAA hAA ?_
  intro v st t locs1 hqa hvm hS1
  obtain ⟨⟨ads', ws', v', hv, hpre, hwo', hret⟩, -⟩ := hqa
  cases hv
  rcases hret with ⟨-, rfl⟩ | ⟨z, -⟩
  · exact kk ads' ws' _ locs1 hpre (hwo'.any (fun k x _ hx => hAA _ hx)) hS1
  · exact absurd h9 z
theorem lw_new (hcx : lw_cx p s m c b L xs D cA) {pc idx ci N : Nat} {C : String} {T : u_T} {ws0 : List Nat} (hq : en_classes[ci]? = some (C, T, N)) (hok : ev_ok1 ev_MT R_law false none pc (.new idx) 3 ci N 0 0 ws0 = true) (hdg : decode code pc = .ok (.new idx, 3))
    {ads : List Nat} {ws : va_W} {H : Heap} {locs : List Loc} {ls : Array Slot} {rest : List Value} {nc cells slots : Nat} {h : ev_H} (hwo : ev_wo D cA (fun q => s.heap.size ≤ q) ads ws nc h H) (hnc : nc < 256) (hS : va_S (fun q => s.heap.size ≤ q) s.heap H locs) (hr1 : cells + 1 ≤ 600000) (hr2 : slots + N ≤ 7302250)
    (kk : ∀ (q : Nat) (ws' : va_W) (H1 : Heap), ev_wo D cA (fun q => s.heap.size ≤ q) (ads ++ [q]) ws' (nc + 1) (ev_hs h nc (ci, ev_blank.getD ci [])) H1 → va_S (fun q => s.heap.size ≤ q) s.heap H1 locs → W p l e room_1 s m #[Value.ref b] below meth c H1 locs (cells + 1) (slots + N) Q (F0 m (pc + 3) ls (.ref q :: rest))) : W p l e room_1 s m #[Value.ref b] below meth c H locs cells slots Q (F0 m pc ls rest) := by
  obtain ⟨hx, hb, hml, hown, hts, hX, hbl, hK, hNw⟩ := hcx
  have htw : ∀ w ∈ en_WS, w.before #[Value.ref b] s = true := fun w hw => hts w (List.mem_filter.mp hw).1
  simp only [ev_ok1, Bool.and_eq_true, Bool.or_eq_true, decide_eq_true_eq] at hok
  obtain ⟨-, hok⟩ := hok
  have hok := hok.resolve_left (by decide)
  rw [hq] at hok
  simp only [Bool.and_eq_true, decide_eq_true_eq, List.all_eq_true, List.mem_range] at hok
  obtain ⟨⟨o1, o2, o3⟩, o4, o5, o6, o7⟩ := hok
  obtain ⟨e1, e2, e3⟩ := en_all _ (List.mem_of_getElem? hq)
  have hv : ∀ j, j < N → ((List.range N).map (fun j => defaultValue (en_ty (C, T, N) j)))[j]? = some (defaultValue (en_ty (C, T, N) j)) := by
    intro j hj
    rw [List.getElem?_map, List.getElem?_range hj]
    rfl
  refine va_new hx hb htw e1 (en_ty (C, T, N)) e2 hown (htw _ (ev_w_in o4)) (htw _ (ev_w_in o5)) (htw _ (ev_w_in o6)) hK hwo.2.2.2.2.1 hwo.2.2.2.2.2 hS (fun q hq => hq) hq (fs := (List.range N).map (fun j => defaultValue (en_ty (C, T, N) j))) (fun j hj => ?_) hr1 hr2 hdg fun q H1 hP hD hS1 => ?_
  · unfold vp_V
    rw [List.getD_eq_getElem?_getD, hv j hj]
    rfl
  · refine kk q _ H1 (hwo.push hnc _ _ (Or.inl ⟨o1, _, rfl, by rw [List.length_map, List.length_range]; exact o3.symm, fun j v hj => ?_⟩) hP hD) hS1
    have hjl : j < N := by have := (List.getElem?_eq_some_iff.mp hj).1; omega
    obtain ⟨z1, z2⟩ := o7 j hjl
    rw [hj] at z1
    cases z1
    exact ⟨_, hv j hjl, ev_dflt (e2 j hjl) z2 ads⟩
end LawStart
theorem lw_worlds {s : State} {b : Nat} (hts : ∀ w ∈ lw_tbl, w.before #[Value.ref b] s = true) : ∃ (D : va_G) (cA : ev_cA), va_K D en_classes (en_tys cA) s ∧ en_N s := by
  have htw : ∀ w ∈ en_WS, w.before #[Value.ref b] s = true := fun w hw => hts w (List.mem_filter.mp hw).1
  have h : ∀ k : Nat, ∃ x : ClassId × (Nat → Nat), ∀ q, en_classes[k]? = some q → u_Kn s q.1 q.2.1 q.2.2 x.1 x.2 := by
    intro k
    cases hk : en_classes[k]? with
    | none => exact ⟨(0, fun _ => 0), fun q hq => by cases hq⟩
    | some q =>
      obtain ⟨cc, i, hh⟩ := u_known (n := q.2.2) htw (en_all q (List.mem_of_getElem? hk)).1 (htw _ (lwt_all q (List.mem_of_getElem? hk)))
      exact ⟨(cc, i), fun q' hq => by cases hq; exact hh⟩
  have ha : ∀ ty : FieldType, Cond.arrayClass ty ∈ en_WS → (∀ C, ty ≠ .object C) → ∃ cA : ClassId, ArrOfT s cA ty ∧ va_RA s cA ty := by
    intro ty hw hC
    obtain ⟨cc, k, comp, h1, h2, h3⟩ := Cond.arrayClass_spec (htw _ hw)
    refine ⟨cc, fun n z => ⟨fun k h => (by cases h), k, h2, comp, h3⟩, ?_⟩
    cases ty
    case object C => exact absurd rfl (hC C)
    all_goals exact h1
  obtain ⟨c0, a0⟩ := ha .int lwa_int (fun C z => by cases z)
  obtain ⟨c1, a1⟩ := ha .byte lwa_byte (fun C z => by cases z)
  obtain ⟨c2, a2⟩ := ha .boolean lwa_boolean (fun C z => by cases z)
  obtain ⟨c3, a3⟩ := ha .long lwa_long (fun C z => by cases z)
  refine ⟨(fun k => (Classical.choose (h k)).1, fun k => (Classical.choose (h k)).2), (fun k => match k with | 0 => c0 | 1 => c1 | 2 => c2 | _ => c3, fun _ => .inr (0, [])), ⟨fun k q hq => Classical.choose_spec (h k) q hq, fun k q hq => ?_⟩, fun w hw => ?_⟩
  · match k, hq with
    | 0, hq => cases hq; exact a0
    | 1, hq => cases hq; exact a1
    | 2, hq => cases hq; exact a2
    | 3, hq => cases hq; exact a3
    | k + 4, hq => simp [en_tys] at hq
  · have h1 := hts w (List.mem_filter.mp hw).1
    have h2 := (List.mem_filter.mp hw).2
    cases w
    case fieldLinkNest => exact va_Nw.of rfl h1
    case methodLinkNest => exact va_Nw.of rfl h1
    all_goals exact absurd h2 (by simp [en_isN])

set_option maxHeartbeats 4000000 in
set_option maxRecDepth 100000 in
theorem whole_start {p : Program} {e : Env} {s : State} {m : MethodId} {below : List Frame} {meth : Method} {c : Code} (l : Launch) {b L : Nat} {xs : Nat → Int32} (hL : L ≤ 6) (C0 : lw_At p s m meth c b L xs) : W p l e room_1 s m #[Value.ref b] below meth c s.heap [] 0 0 (lw_Z below #[Value.ref b] s) (entryFrame m ([Value.ref b] : List Value).toArray 4) := by
  obtain ⟨hx, hb, hr, hml, hown, hts, hX, hbl, hlocks, hgv⟩ := id C0
  obtain ⟨D, cA, hK, hNw⟩ := lw_worlds hts
  have hcx : lw_cx p s m c b L xs D cA := ⟨hx, hb, hml, hown, hts, hX, hbl, hK, hNw⟩
  have hS : va_S (fun q : Nat => s.heap.size ≤ q) s.heap s.heap [] := va_S.rf
  have hwo : ev_wo D cA (fun q : Nat => s.heap.size ≤ q) [] [] 0 ev_hA s.heap := ⟨rfl, rfl, by decide, fun k hk => absurd hk (by omega), fun k q h => by simp at h, ⟨fun i j p q h => by simp at h, fun k q h => by simp at h⟩⟩
  have hl := lv_entry ([.ref b]) (n := 4) (Nat.le_of_ble_eq_true rfl)
  rw [lg_entry_eq]
  generalize (lg_sl ([.ref b]) ++ List.replicate (4 - (lg_sl ([.ref b])).length) Slot.unset).toArray = ls at hl ⊢
  have hl : lv_has ls 4 [(0, .ref b)] := hl
  refine lw_new (ci := 9) hcx rfl lwn_0 dl_0 hwo (Nat.le_of_ble_eq_true rfl) hS (Nat.le_of_ble_eq_true rfl) (Nat.le_of_ble_eq_true rfl) fun bx ws1 H1 hwo1 hS1 => ?_
  refine lv_dup hx hb dl_3 rfl ?_
  obtain ⟨v1, hv1, hv19⟩ := ev_isR_ok st_1
  have hwoA : ev_wo D cA (fun q : Nat => s.heap.size ≤ q) ([] ++ [bx]) ws1 (0 + 1) ev_hA H1 := by
    have e : ev_hs ev_hA 0 (9, ev_blank.getD 9 []) = ev_hA := ev_teq_ok 8 _ _ (by decide +kernel)
    rw [e] at hwo1
    exact hwo1
  refine lw_init (As := []) (rest := [.ref bx]) hcx lwi_4 dl_4 hv1 hv19 hwoA hS1 trivial rfl rfl hl.1 (Nat.le_of_ble_eq_true rfl) (Nat.le_of_ble_eq_true rfl) (Nat.le_of_ble_eq_true rfl) fun ads2 ws2 H2 locs2 hp2 hwo2 hS2 => ?_
  have hbx : ads2[0]? = some bx := by obtain ⟨x, rfl⟩ := hp2; rfl
  refine lv_astore_n (lv' := [(1, .ref bx), (0, .ref b)]) hx hb dl_7 rfl hl (by decide) rfl (fun ls hl => ?_)
  refine lw_new (ci := 10) hcx rfl lwn_8 dl_8 hwo2 (Nat.le_of_ble_eq_true rfl) hS2 (Nat.le_of_ble_eq_true rfl) (Nat.le_of_ble_eq_true rfl) fun bm ws3 H3 hwo3 hS3 => ?_
  refine lv_dup hx hb dl_11 rfl ?_
  obtain ⟨v2, hv2, hv29⟩ := ev_isR_ok st_2
  have hl83 : ads2.length = 83 := by rw [← hwo2.1, List.length_map]; exact hwo2.2.1
  have hbm : (ads2 ++ [bm])[83]? = some bm := by rw [List.getElem?_append_right (by omega), hl83]; rfl
  refine lw_init (As := []) (rest := [.ref bm]) hcx lwi_12 dl_12 hv2 hv29 hwo3 hS3 trivial hbm rfl hl.1 (Nat.le_of_ble_eq_true rfl) (Nat.le_of_ble_eq_true rfl) (Nat.le_of_ble_eq_true rfl) fun ads4 ws4 H4 locs4 hp4 hwo4 hS4 => ?_
  have hbx4 : ads4[0]? = some bx := by obtain ⟨x, rfl⟩ := hp4; rw [List.append_assoc, List.getElem?_append_left (by omega)]; exact hbx
  have hbm4 : ads4[83]? = some bm := by obtain ⟨x, rfl⟩ := hp4; rw [List.getElem?_append_left (by simp; omega)]; exact hbm
  refine lv_astore_n (lv' := [(2, .ref bm), (1, .ref bx), (0, .ref b)]) hx hb dl_15 rfl hl (by decide) rfl (fun ls hl => ?_)
  refine lv_iconst (v := 0) hx hb dl_16 (by decide) ?_
  refine lv_istore_n (lv' := [(3, .int 0), (2, .ref bm), (1, .ref bx), (0, .ref b)]) hx hb dl_17 rfl hl (by decide) rfl (fun ls hl => ?_)
  refine W.widen (k := 133) (n := 14699) (Nat.le_of_ble_eq_true rfl) (Nat.le_of_ble_eq_true rfl) ?_
  have hbA : ¬ (fun q : Nat => s.heap.size ≤ q) b := Nat.not_le.mpr hbl
  have hone : ∀ (H1 : Heap) (locs1 : List Loc) (ls : Array Slot), va_S (fun q : Nat => s.heap.size ≤ q) s.heap H1 locs1 → W p l e room_1 s m #[Value.ref b] below meth c H1 locs1 133 14699 (lw_Z below #[Value.ref b] s) (F0 m 1142 ls []) := by
    intro H1 locs1 ls hS1
    refine lv_iconst (v := 1) hx hb dl_1142 (by decide) ?_
    refine va_forget (fun q hq => hS1.2.2 q hq) ?_
    refine W.widen (k := 600000) (n := 7302250) (by decide) (by decide) ?_
    exact lw_ret hx hb hr hlocks dl_1143
  refine lv_iload_n hx hb dl_18 rfl (lv_at hl 0 rfl) ?_
  refine lv_aload_n hx hb dl_19 rfl (lv_at hl 3 rfl) ?_
  refine va_slen hx hb hX hbl hbA hS4 dl_20 ?_
  refine lv_bipush (v := 6) hx hb dl_21 (by decide) ?_
  refine lv_isub hx hb dl_23 ?_
  by_cases hL6 : L = 6
  · refine lv_icmp_gt (tgt := 1142) hx hb dl_24 (by decide) (fun _ => hone _ _ _ hS4) (fun _ => ?_)
    have hend : ∀ (H1 : Heap) (locs1 : List Loc), va_S (fun q : Nat => s.heap.size ≤ q) s.heap H1 locs1 → W p l e room_1 s m #[Value.ref b] below meth c H1 locs1 133 14699 (lw_Z below #[Value.ref b] s) (F0 m 1136 ls []) := by
      intro H1 locs1 hS1
      refine lv_iinc (v := 6) (lv' := [(3, .int 6), (2, .ref bm), (1, .ref bx), (0, .ref b)]) hx hb dl_1136 hl (k := 0) rfl (by decide) (by decide) rfl (fun ls hl => ?_)
      refine lv_goto (tgt := 18) hx hb dl_1139 (by decide) ?_
      refine lv_iload_n hx hb dl_18 rfl (lv_at hl 0 rfl) ?_
      refine lv_aload_n hx hb dl_19 rfl (lv_at hl 3 rfl) ?_
      refine va_slen hx hb hX hbl hbA hS1 dl_20 ?_
      refine lv_bipush (v := 6) hx hb dl_21 (by decide) ?_
      refine lv_isub hx hb dl_23 ?_
      exact lv_icmp_gt (tgt := 1142) hx hb dl_24 (by decide) (fun _ => hone _ _ _ hS1) (fun z => absurd (by rw [hL6]; decide) z)
    refine lv_aload_n hx hb dl_27 rfl (lv_at hl 3 rfl) ?_
    refine lv_iload_n hx hb dl_28 rfl (lv_at hl 0 rfl) ?_
    refine va_sld hx hb hX hbl hbA hS4 (i := 0) (show vp_in 0 L from ev_in (j := 0) (by decide) (by omega)) dl_29 ?_
    refine lv_bipush (v := 63) hx hb dl_30 (by decide) ?_
    refine lv_iand hx hb dl_32 ?_
    obtain ⟨j, hj, ej⟩ := pk_andE (xs (Int32.toNatClampNeg 0)) (m := 63) 6 (by decide)
    rw [ej]
    have hk : (nI j).toInt = (j : Int) := nI_toInt (by omega)
    match j, hj, hk with
    | 0, _, _ => exact lv_tableIn (off := 159) (tgt := 192) hx hb dl_33 (by decide) (by decide) (by decide) (by decide) (lw_f_feed hcx hL6 hwo4 hS4 (lv_at hl 3 rfl) (lv_at hl 2 rfl) (lv_at hl 1 rfl) (lv_at hl 0 rfl) hl.1 hbx4 hbm4 hend)
    | 1, _, _ => exact lv_tableIn (off := 222) (tgt := 255) hx hb dl_33 (by decide) (by decide) (by decide) (by decide) (lw_f_end hcx hL6 hwo4 hS4 (lv_at hl 3 rfl) (lv_at hl 2 rfl) (lv_at hl 1 rfl) (lv_at hl 0 rfl) hl.1 hbx4 hbm4 hend)
    | 2, _, _ => exact lv_tableIn (off := 245) (tgt := 278) hx hb dl_33 (by decide) (by decide) (by decide) (by decide) (lw_f_meadow hcx hL6 hwo4 hS4 (lv_at hl 3 rfl) (lv_at hl 2 rfl) (lv_at hl 1 rfl) (lv_at hl 0 rfl) hl.1 hbx4 hbm4 hend)
    | 3, _, _ => exact lv_tableIn (off := 258) (tgt := 291) hx hb dl_33 (by decide) (by decide) (by decide) (by decide) (lw_f_fault hcx hL6 hwo4 hS4 (lv_at hl 3 rfl) (lv_at hl 2 rfl) (lv_at hl 1 rfl) (lv_at hl 0 rfl) hl.1 hbx4 hbm4 hend)
    | 4, _, _ => exact lv_tableIn (off := 281) (tgt := 314) hx hb dl_33 (by decide) (by decide) (by decide) (by decide) (lw_f_thing hcx hL6 hwo4 hS4 (lv_at hl 3 rfl) (lv_at hl 2 rfl) (lv_at hl 1 rfl) (lv_at hl 0 rfl) hl.1 hbx4 hbm4 hend)
    | 5, _, _ => exact lv_tableIn (off := 304) (tgt := 337) hx hb dl_33 (by decide) (by decide) (by decide) (by decide) (lw_f_glyph hcx hL6 hwo4 hS4 (lv_at hl 3 rfl) (lv_at hl 2 rfl) (lv_at hl 1 rfl) (lv_at hl 0 rfl) hl.1 hbx4 hbm4 hend)
    | 6, _, _ => exact lv_tableIn (off := 337) (tgt := 370) hx hb dl_33 (by decide) (by decide) (by decide) (by decide) (lw_f_plot hcx hL6 hwo4 hS4 (lv_at hl 3 rfl) (lv_at hl 2 rfl) (lv_at hl 1 rfl) (lv_at hl 0 rfl) hl.1 hbx4 hbm4 hend)
    | 7, _, _ => exact lv_tableIn (off := 370) (tgt := 403) hx hb dl_33 (by decide) (by decide) (by decide) (by decide) (lw_f_mow hcx hL6 hwo4 hS4 (lv_at hl 3 rfl) (lv_at hl 2 rfl) (lv_at hl 1 rfl) (lv_at hl 0 rfl) hl.1 hbx4 hbm4 hend)
    | 8, _, _ => exact lv_tableIn (off := 393) (tgt := 426) hx hb dl_33 (by decide) (by decide) (by decide) (by decide) (lw_f_sow hcx hL6 hwo4 hS4 (lv_at hl 3 rfl) (lv_at hl 2 rfl) (lv_at hl 1 rfl) (lv_at hl 0 rfl) hl.1 hbx4 hbm4 hend)
    | 9, _, _ => exact lv_tableIn (off := 416) (tgt := 449) hx hb dl_33 (by decide) (by decide) (by decide) (by decide) (lw_f_year hcx hL6 hwo4 hS4 (lv_at hl 3 rfl) (lv_at hl 2 rfl) (lv_at hl 1 rfl) (lv_at hl 0 rfl) hl.1 hbx4 hbm4 hend)
    | 10, _, _ => exact lv_tableIn (off := 429) (tgt := 462) hx hb dl_33 (by decide) (by decide) (by decide) (by decide) (lw_f_undo hcx hL6 hwo4 hS4 (lv_at hl 3 rfl) (lv_at hl 2 rfl) (lv_at hl 1 rfl) (lv_at hl 0 rfl) hl.1 hbx4 hbm4 hend)
    | 11, _, _ => exact lv_tableIn (off := 442) (tgt := 475) hx hb dl_33 (by decide) (by decide) (by decide) (by decide) (lw_f_redo hcx hL6 hwo4 hS4 (lv_at hl 3 rfl) (lv_at hl 2 rfl) (lv_at hl 1 rfl) (lv_at hl 0 rfl) hl.1 hbx4 hbm4 hend)
    | 12, _, _ => exact lv_tableIn (off := 455) (tgt := 488) hx hb dl_33 (by decide) (by decide) (by decide) (by decide) (lw_f_readings hcx hL6 hwo4 hS4 (lv_at hl 3 rfl) (lv_at hl 2 rfl) (lv_at hl 1 rfl) (lv_at hl 0 rfl) hl.1 hbx4 hbm4 hend)
    | 13, _, _ => exact lv_tableIn (off := 468) (tgt := 501) hx hb dl_33 (by decide) (by decide) (by decide) (by decide) (lw_f_taken hcx hL6 hwo4 hS4 (lv_at hl 3 rfl) (lv_at hl 2 rfl) (lv_at hl 1 rfl) (lv_at hl 0 rfl) hl.1 hbx4 hbm4 hend)
    | 14, _, _ => exact lv_tableIn (off := 481) (tgt := 514) hx hb dl_33 (by decide) (by decide) (by decide) (by decide) (lw_f_weight hcx hL6 hwo4 hS4 (lv_at hl 3 rfl) (lv_at hl 2 rfl) (lv_at hl 1 rfl) (lv_at hl 0 rfl) hl.1 hbx4 hbm4 hend)
    | 15, _, _ => exact lv_tableIn (off := 494) (tgt := 527) hx hb dl_33 (by decide) (by decide) (by decide) (by decide) (lw_f_does hcx hL6 hwo4 hS4 (lv_at hl 3 rfl) (lv_at hl 2 rfl) (lv_at hl 1 rfl) (lv_at hl 0 rfl) hl.1 hbx4 hbm4 hend)
    | 16, _, _ => exact lv_tableIn (off := 517) (tgt := 550) hx hb dl_33 (by decide) (by decide) (by decide) (by decide) (lw_f_will hcx hL6 hwo4 hS4 (lv_at hl 3 rfl) (lv_at hl 2 rfl) (lv_at hl 1 rfl) (lv_at hl 0 rfl) hl.1 hbx4 hbm4 hend)
    | 17, _, _ => exact lv_tableIn (off := 550) (tgt := 583) hx hb dl_33 (by decide) (by decide) (by decide) (by decide) (lw_f_field hcx hL6 hwo4 hS4 (lv_at hl 3 rfl) (lv_at hl 2 rfl) (lv_at hl 1 rfl) (lv_at hl 0 rfl) hl.1 hbx4 hbm4 hend)
    | 18, _, _ => exact lv_tableIn (off := 573) (tgt := 606) hx hb dl_33 (by decide) (by decide) (by decide) (by decide) (lw_f_harm hcx hL6 hwo4 hS4 (lv_at hl 3 rfl) (lv_at hl 2 rfl) (lv_at hl 1 rfl) (lv_at hl 0 rfl) hl.1 hbx4 hbm4 hend)
    | 19, _, _ => exact lv_tableIn (off := 586) (tgt := 619) hx hb dl_33 (by decide) (by decide) (by decide) (by decide) (lw_f_turn hcx hL6 hwo4 hS4 (lv_at hl 3 rfl) (lv_at hl 2 rfl) (lv_at hl 1 rfl) (lv_at hl 0 rfl) hl.1 hbx4 hbm4 hend)
    | 20, _, _ => exact lv_tableIn (off := 619) (tgt := 652) hx hb dl_33 (by decide) (by decide) (by decide) (by decide) (lw_f_plain hcx hL6 hwo4 hS4 (lv_at hl 3 rfl) (lv_at hl 2 rfl) (lv_at hl 1 rfl) (lv_at hl 0 rfl) hl.1 hbx4 hbm4 hend)
    | 21, _, _ => exact lv_tableIn (off := 632) (tgt := 665) hx hb dl_33 (by decide) (by decide) (by decide) (by decide) (lw_f_orders hcx hL6 hwo4 hS4 (lv_at hl 3 rfl) (lv_at hl 2 rfl) (lv_at hl 1 rfl) (lv_at hl 0 rfl) hl.1 hbx4 hbm4 hend)
    | 22, _, _ => exact lv_tableIn (off := 655) (tgt := 688) hx hb dl_33 (by decide) (by decide) (by decide) (by decide) (lw_f_write hcx hL6 hwo4 hS4 (lv_at hl 3 rfl) (lv_at hl 2 rfl) (lv_at hl 1 rfl) (lv_at hl 0 rfl) hl.1 hbx4 hbm4 hend)
    | 23, _, _ => exact lv_tableIn (off := 698) (tgt := 731) hx hb dl_33 (by decide) (by decide) (by decide) (by decide) (lw_f_watch hcx hL6 hwo4 hS4 (lv_at hl 3 rfl) (lv_at hl 2 rfl) (lv_at hl 1 rfl) (lv_at hl 0 rfl) hl.1 hbx4 hbm4 hend)
    | 24, _, _ => exact lv_tableIn (off := 711) (tgt := 744) hx hb dl_33 (by decide) (by decide) (by decide) (by decide) (lw_f_cows hcx hL6 hwo4 hS4 (lv_at hl 3 rfl) (lv_at hl 2 rfl) (lv_at hl 1 rfl) (lv_at hl 0 rfl) hl.1 hbx4 hbm4 hend)
    | 25, _, _ => exact lv_tableIn (off := 744) (tgt := 777) hx hb dl_33 (by decide) (by decide) (by decide) (by decide) (lw_f_duel hcx hL6 hwo4 hS4 (lv_at hl 3 rfl) (lv_at hl 2 rfl) (lv_at hl 1 rfl) (lv_at hl 0 rfl) hl.1 hbx4 hbm4 hend)
    | 26, _, _ => exact lv_tableIn (off := 797) (tgt := 830) hx hb dl_33 (by decide) (by decide) (by decide) (by decide) (lw_f_lies hcx hL6 hwo4 hS4 (lv_at hl 3 rfl) (lv_at hl 2 rfl) (lv_at hl 1 rfl) (lv_at hl 0 rfl) hl.1 hbx4 hbm4 hend)
    | 27, _, _ => exact lv_tableIn (off := 820) (tgt := 853) hx hb dl_33 (by decide) (by decide) (by decide) (by decide) (lw_f_heard hcx hL6 hwo4 hS4 (lv_at hl 3 rfl) (lv_at hl 2 rfl) (lv_at hl 1 rfl) (lv_at hl 0 rfl) hl.1 hbx4 hbm4 hend)
    | 28, _, _ => exact lv_tableIn (off := 889) (tgt := 922) hx hb dl_33 (by decide) (by decide) (by decide) (by decide) (lw_f_untell hcx hL6 hwo4 hS4 (lv_at hl 3 rfl) (lv_at hl 2 rfl) (lv_at hl 1 rfl) (lv_at hl 0 rfl) hl.1 hbx4 hbm4 hend)
    | 29, _, _ => exact lv_tableIn (off := 912) (tgt := 945) hx hb dl_33 (by decide) (by decide) (by decide) (by decide) (lw_f_later hcx hL6 hwo4 hS4 (lv_at hl 3 rfl) (lv_at hl 2 rfl) (lv_at hl 1 rfl) (lv_at hl 0 rfl) hl.1 hbx4 hbm4 hend)
    | 30, _, _ => exact lv_tableIn (off := 935) (tgt := 968) hx hb dl_33 (by decide) (by decide) (by decide) (by decide) (lw_f_fit hcx hL6 hwo4 hS4 (lv_at hl 3 rfl) (lv_at hl 2 rfl) (lv_at hl 1 rfl) (lv_at hl 0 rfl) hl.1 hbx4 hbm4 hend)
    | 31, _, _ => exact lv_tableIn (off := 958) (tgt := 991) hx hb dl_33 (by decide) (by decide) (by decide) (by decide) (lw_f_sure hcx hL6 hwo4 hS4 (lv_at hl 3 rfl) (lv_at hl 2 rfl) (lv_at hl 1 rfl) (lv_at hl 0 rfl) hl.1 hbx4 hbm4 hend)
    | 32, _, _ => exact lv_tableIn (off := 1001) (tgt := 1034) hx hb dl_33 (by decide) (by decide) (by decide) (by decide) (lw_f_ask hcx hL6 hwo4 hS4 (lv_at hl 3 rfl) (lv_at hl 2 rfl) (lv_at hl 1 rfl) (lv_at hl 0 rfl) hl.1 hbx4 hbm4 hend)
    | 33, _, _ => exact lv_tableIn (off := 1034) (tgt := 1067) hx hb dl_33 (by decide) (by decide) (by decide) (by decide) (lw_f_image hcx hL6 hwo4 hS4 (lv_at hl 3 rfl) (lv_at hl 2 rfl) (lv_at hl 1 rfl) (lv_at hl 0 rfl) hl.1 hbx4 hbm4 hend)
    | 34, _, _ => exact lv_tableIn (off := 1057) (tgt := 1090) hx hb dl_33 (by decide) (by decide) (by decide) (by decide) (lw_f_back hcx hL6 hwo4 hS4 (lv_at hl 3 rfl) (lv_at hl 2 rfl) (lv_at hl 1 rfl) (lv_at hl 0 rfl) hl.1 hbx4 hbm4 hend)
    | 35, _, _ => exact lv_tableIn (off := 1080) (tgt := 1113) hx hb dl_33 (by decide) (by decide) (by decide) (by decide) (lw_f_about hcx hL6 hwo4 hS4 (lv_at hl 3 rfl) (lv_at hl 2 rfl) (lv_at hl 1 rfl) (lv_at hl 0 rfl) hl.1 hbx4 hbm4 hend)
    | j + 36, hj, hk => exact lv_tableOut (tgt := 1136) hx hb dl_33 (by rw [hk]; omega) (by decide) (hend _ _ hS4)
  · refine lv_icmp_gt (tgt := 1142) hx hb dl_24 (by decide) (fun _ => hone _ _ _ hS4) (fun z => absurd ?_ z)
    have hLL : L = 0 ∨ L = 1 ∨ L = 2 ∨ L = 3 ∨ L = 4 ∨ L = 5 := by omega
    rcases hLL with h | h | h | h | h | h <;> rw [h] <;> decide

set_option maxHeartbeats 4000000 in
theorem lw_walk (l : Launch) (b : Addr) (xs : List Int32) : MetFree l x (headSpec (Jvm.Cond.code x code maxLocals ret :: tables_1) room_1) (lw_P b xs) (fun _ _ _ _ _ => True) lw_Q := by
  refine MetFree.of_bodyS (code := code) (maxLocals := maxLocals) (ret := ret) (by decide) ?_ ?_
  · intro args s m h hn
    obtain ⟨meth, c, h1, h2, h3, h4, h5, h6, -, -⟩ := Cond.code_spec hn (atoms_spec (ws := Jvm.Cond.code x code maxLocals ret :: tables_1) h _ List.mem_cons_self)
    exact ⟨meth, c, h1, h2, h3, h4, h5, h6⟩
  · intro p e s m args below meth c s₁ B hml0 hP _
    obtain ⟨rfl, hx, hbd, hgv⟩ := hP
    obtain ⟨scr, harrAt, hlist, hof, hsmall⟩ := hx
    obtain ⟨hcb, hkn, -, -⟩ := State.arrayAt?_spec harrAt
    have hown : s.vm.findClass R_law = some m.cls := findClass_of_methodNamed B.named
    have hts0 : ∀ c ∈ (Jvm.Cond.code x code maxLocals ret :: tables_1), c.before #[Value.ref b] s = true := atoms_spec (ws := Jvm.Cond.code x code maxLocals ret :: tables_1) B.pre
    have hts : ∀ w ∈ lw_tbl, w.before #[Value.ref b] s = true := k2_hts_sels lw_privs (fun w hw => hts0 w (List.mem_cons_of_mem _ hw)) lw_privs_ok
    have hml : c.maxLocals = 4 := B.maxLocals_eq (hts0 _ List.mem_cons_self)
    have X₀ : Stand p l e room_1 s m #[Value.ref b] below meth c s₁ [] 0 0 := Stand.of_body B
    have hh0 : s₁.heap = s.heap := by rw [B.state]; rfl
    have hsz : scr.slots.size = xs.length := by rw [← Array.length_toList, hlist, List.length_map]
    have hval : ∀ j : Nat, j < xs.length → scr.slots[j]? = some (.int (xs.getD j 0)) := fun j hj => by
      rw [← Array.getElem?_toList, hlist]
      simp [hj]
    have hbl : b < s.heap.size := (Array.getElem?_eq_some_iff.mp hcb).1
    have hX : va_X b xs.length (fun j => xs.getD j 0) s s.heap := ⟨scr, hcb, hof, hkn, hsz, hval⟩
    have K : W p l e room_1 s m #[Value.ref b] below meth c s₁.heap [] 0 0 (lw_Z below #[Value.ref b] s) (entryFrame m ([Value.ref b] : List Value).toArray 4) := by
      rw [hh0]
      exact whole_start l hbd ⟨B.exec, B.bytes, B.returns, hml, hown, hts, hX, hbl, B.notSynchronized, hgv⟩
    obtain ⟨t, a1, o, b1, b2, b3⟩ := K s₁ rfl X₀
    exact ⟨t, o, a1, b1, b2, b3⟩
theorem lw_pre_spec {args : Array Value} {s : State} (h : (Jvm.Cond.and given_1 narrow_1).before args s = true) (hr : rest_1_c.before args s = true) : ∃ (b : Addr) (xs : List Int32), lw_P b xs args s := by
  have hs := flat_of_before _ h
  have hq := flat_of_before _ hr
  have hc : (Cond.count 1).before args s = true := hs _ (by decide +kernel)
  have harr : (Cond.arrayOf (.arg 0) .int).before args s = true := hs _ (by decide +kernel)
  have hle : (Cond.le (.length (.arg 0)) (.int 6)).before args s = true := hs _ (by decide +kernel)
  have hlen : (Cond.isInt (.length (.arg 0))).before args s = true := hq _ (by decide +kernel)
  have hall : (Cond.all (.arg 0) (.isInt (.elem (.arg 0) (.index 0)))).before args s = true := hq _ (by decide +kernel)
  obtain ⟨b, xs, hb, hx⟩ := State.ints_of_pre rfl harr hlen hall
  have hsm : xs.length < 2 ^ 31 := hx.choose_spec.2.2.2
  have hev : (Term.length (.arg 0)).eval args s none [] s = some (.int xs.length.toInt32) := hx.length_eval hb
  have hv := Cond.le_ints hev (show (Term.int 6).eval args s none [] s = some (.int 6) from rfl)
  have hd : xs.length.toInt32 ≤ 6 := by
    simpa [Cond.before, Cond.holds, hv] using hle
  have hN : xs.length ≤ 6 := (Int32.ofNat_le_ofNat hsm (by decide)).mp (show Int32.ofNat xs.length ≤ Int32.ofNat 6 from hd)
  exact ⟨b, xs, Cond.one_arg hc (show args[0]? = some (.ref b) from hb), hx, hN, h⟩
theorem lw_comes (l : Launch) : Comes l x (Jvm.Cond.code x code maxLocals ret :: tables_1) room_1 (fun tb e args s => Calls_1 tb e args s ∧ rest_1 tb e args s ∧ Pre_1 tb e args s)
    (fun _ _ args s o t => lw_Q args s o t) := by
  intro p e ha hc hk s m args below hf hfit hheap happ hpre
  obtain ⟨b, xs, hP⟩ := lw_pre_spec hpre.2.2 hpre.2.1
  obtain ⟨k, o, h1, h2, h3, hQ⟩ := lw_walk l b xs p e ha hc hk s m args below hf ((Spec.applies_iff_loose hf).mp happ).1 hP trivial
  exact ⟨k, o, h1, h2, h3, hQ⟩
theorem lw_frame {s t : State} {o : Outcome} {args : Array Value} (h : Framed s o t [] 600000 7302250) :
    Framed s o t (fieldLocs frame_1_writes args s ++ arrayLocs frame_1_arrays args s ++ staticLocs frame_1_statics s) 600000 7302250 := h
theorem lw_limb (L : Cond) (hL : ∀ (args : Array Value) (s t : State), L.after args s (.returned (some (.int 1))) t = true) :
    ArmFor flags0 classFile x code maxLocals ret World_1 tables_1 room_1 Calls_1 rest_1 Pre_1
      (fun tb e a s o t => postC L tb e a s o t ∧ Framed s o t (fieldLocs frame_1_writes a s ++ arrayLocs frame_1_arrays a s ++ staticLocs frame_1_statics s) 600000 7302250) := by
  intro l _ _ _ p e ha hc hk s m args below hf hfit hheap happ hpre
  obtain ⟨k, o, h1, h2, h3, rfl, hF⟩ := lw_comes l p e ha hc hk s m args below hf hfit hheap happ hpre
  exact ⟨k, _, h1, h2, h3, hL args s _, lw_frame hF⟩
theorem i_vc : Claimed_1_1 ∧ Claimed_1_2 := ⟨lw_limb limb_1_1 (fun args s t => by simp [limb_1_1, Cond.after, Cond.holds, Cond.value]), lw_limb limb_1_2 (fun args s t => Cond.after_iff.mpr (by
  first | (rw [show limb_1_2 = Cond.eq .result (.int 1) from rfl, Cond.eq_ints (x := 1) (y := 1) rfl rfl]; simp; done) | (simp [limb_1_2, Cond.value, Term.eval]; done)))⟩

