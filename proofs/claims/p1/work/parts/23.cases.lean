/-! THE LAW'S CASES -/
section LawCases
variable {p : Program} {l : Launch} {e : Env} {s : State} {m : MethodId} {below : List Frame} {meth : Method} {c : Code} {b L : Nat} {xs : Nat → Int32} {D : va_G} {cA : ev_cA} {Q : State → Prop}
theorem lw_bool (hx : p.tables.exec = Jvm.exec) (hb : c.code = code) {H : Heap} {locs : List Loc} {cells slots : Nat} {ls : Array Slot} {rest : List Value} {x : Int32} {pc : Nat} (d0 : decode code pc = .ok (.ifCond .eq 7, 3)) (d1 : decode code (pc + 3) = .ok (.iconst 1, 1)) (d2 : decode code (pc + 4) = .ok (.goto 4, 3)) (d3 : decode code (pc + 7) = .ok (.iconst 0, 1)) (kk : W p l e room_1 s m #[Value.ref b] below meth c H locs cells slots Q (F0 m (pc + 8) ls (.int (if x = 0 then 0 else 1) :: rest))) : W p l e room_1 s m #[Value.ref b] below meth c H locs cells slots Q (F0 m pc ls (.int x :: rest)) := by
  by_cases h : x = 0
  · rw [if_pos h] at kk
    exact lv_if_eq (tgt := pc + 7) hx hb d0 (by omega) (fun _ => lv_iconst (v := 0) hx hb d3 (by decide) kk) (fun z => absurd h z)
  · rw [if_neg h] at kk
    exact lv_if_eq (tgt := pc + 7) hx hb d0 (by omega) (fun z => absurd z h) (fun _ => lv_iconst (v := 1) hx hb d1 (by decide) (lv_goto (tgt := pc + 8) hx hb d2 (by omega) kk))
theorem hg_0 : (ev_hg ev_h0 0).1 = 9 := by decide +kernel
theorem hg_83 : (ev_hg ev_h0 83).1 = 10 := by decide +kernel
set_option maxRecDepth 100000 in
theorem mt_duel : ∀ M, ev_MT[90]? = some M → M = ev_MD := fun M hM => Option.some.inj (hM.symm.trans rfl)
theorem hgM_83 : (ev_hg ev_hM 83).1 = 10 := by decide +kernel
set_option maxRecDepth 100000 in
theorem mt_oX : ∀ M, ev_MT[86]? = some M → M = ev_N86 := fun M hM => Option.some.inj (hM.symm.trans rfl)
set_option maxRecDepth 100000 in
theorem mt_oM : ∀ M, ev_MT[164]? = some M → M = ev_N164 := fun M hM => Option.some.inj (hM.symm.trans rfl)
set_option maxRecDepth 100000 in
theorem mt_fX : ∀ M, ev_MT[82]? = some M → M = ev_MFI := fun M hM => Option.some.inj (hM.symm.trans rfl)
set_option maxRecDepth 100000 in
theorem mt_fM : ∀ M, ev_MT[158]? = some M → M = ev_MFM := fun M hM => Option.some.inj (hM.symm.trans rfl)
theorem lw_callT (hcx : lw_cx p s m c b L xs D cA) {pc idx k n ci : Nat} {ws0 : List Nat} (hok : ev_ok1 ev_MT R_law false none pc (.invokevirtual idx) 3 k n 0 ci ws0 = true) (hdg : decode code pc = .ok (.invokevirtual idx, 3)) {as : List ev_V} {a0 : Nat} {h h' : ev_H} {v : ev_V} (hres : ∀ M, ev_MT[k]? = some M → ev_Met l M 20 ((2, a0, 0) :: as) 14699 133 h (v, 14699, 133, h')) (ha0 : a0 < 133) (hci : (ev_hg h a0).1 = ci)
    {ads : List Nat} {ws : va_W} {H : Heap} {locs : List Loc} {ls : Array Slot} {rest As : List Value} {bq cells slots : Nat} (hwo : ev_wo D cA (fun q => s.heap.size ≤ q) ads ws 133 h H) (hS : va_S (fun q => s.heap.size ≤ q) s.heap H locs) (hAs : ev_relS ads as As) (hbq : ads[a0]? = some bq) (hn : As.length = n) (hls : ls.size = 4) (hsum : rest.length ≤ 4) (hr1 : cells ≤ 600000) (hr2 : slots ≤ 7302250)
    (kk : ∀ (ads' : List Nat) (ws' : va_W) (H1 : Heap) (locs1 : List Loc) (w : Option Value), (∃ x, ads' = ads ++ x) → ev_wo D cA (fun q => s.heap.size ≤ q) ads' ws' 133 h' H1 → va_S (fun q => s.heap.size ≤ q) s.heap H1 locs1 → ev_ret ads' v w → W p l e room_1 s m #[Value.ref b] below meth c H1 locs1 cells slots Q (F0 m (pc + 3) ls (w.toList ++ rest))) : W p l e room_1 s m #[Value.ref b] below meth c H locs cells slots Q (F0 m pc ls (As.reverse ++ .ref bq :: rest)) := by
  refine lw_call hcx hok hdg hres ha0 hci hwo hS hAs hbq hn hls hsum ?_ ?_ ?_
  · show cells + (133 - 133) ≤ 600000
    rw [Nat.sub_self]
    exact hr1
  · show slots + (14699 - 14699) ≤ 7302250
    rw [Nat.sub_self]
    exact hr2
  · intro ads' ws' H1 locs1 w h1 h2 h3 h4
    show W p l e room_1 s m #[Value.ref b] below meth c H1 locs1 (cells + (133 - 133)) (slots + (14699 - 14699)) Q (F0 m (pc + 3) ls (w.toList ++ rest))
    rw [Nat.sub_self]
    exact kk ads' ws' H1 locs1 w h1 h2 h3 h4
theorem lwk_218 : ev_ok1 ev_MT R_law false none 218 (.invokevirtual 13) 3 65 5 0 9 [2226, 2229, 1001, 2227, 2228] = true := by decide +kernel
theorem lwk_247 : ev_ok1 ev_MT R_law false none 247 (.invokevirtual 17) 3 184 5 0 10 [8229, 8232, 1012, 8230, 8231] = true := by decide +kernel
theorem lw_f_feed (hcx : lw_cx p s m c b L xs D cA) (hL : L = 6) {ads : List Nat} {ws : va_W} {H : Heap} {locs : List Loc} {ls : Array Slot} {bx bm : Nat} (hwo : ev_wo D cA (fun q => s.heap.size ≤ q) ads ws 133 ev_h0 H) (hS : va_S (fun q => s.heap.size ≤ q) s.heap H locs) (h0 : ls[0]? = some (.val (.ref b))) (h1 : ls[1]? = some (.val (.ref bx))) (h2 : ls[2]? = some (.val (.ref bm))) (h3 : ls[3]? = some (.val (.int 0))) (hsz : ls.size = 4) (hbx : ads[0]? = some bx) (hbm : ads[83]? = some bm) (hend : ∀ (H1 : Heap) (locs1 : List Loc), va_S (fun q => s.heap.size ≤ q) s.heap H1 locs1 → W p l e room_1 s m #[Value.ref b] below meth c H1 locs1 133 14699 Q (F0 m 1136 ls [])) : W p l e room_1 s m #[Value.ref b] below meth c H locs 133 14699 Q (F0 m 192 ls []) := by
  obtain ⟨hx, hb, hml, hown, hts, hX, hbl, hK, hNw⟩ := id hcx
  refine lv_aload_n hx hb dl_192 rfl h1 ?_
  refine lw_arg hcx hS h0 h3 (k := 1) (by omega) (by decide) dl_193 dl_194 dl_195 dl_196 dl_197 ?_
  refine lw_arg hcx hS h0 h3 (k := 2) (by omega) (by decide) dl_198 dl_199 dl_200 dl_201 dl_202 ?_
  refine lw_arg hcx hS h0 h3 (k := 3) (by omega) (by decide) dl_203 dl_204 dl_205 dl_206 dl_207 ?_
  refine lw_arg hcx hS h0 h3 (k := 4) (by omega) (by decide) dl_208 dl_209 dl_210 dl_211 dl_212 ?_
  refine lw_arg hcx hS h0 h3 (k := 5) (by omega) (by decide) dl_213 dl_214 dl_215 dl_216 dl_217 ?_
  obtain ⟨as, has, htwo⟩ := rs_feed ads (xs 1) (xs 2) (xs 3) (xs 4) (xs 5)
  obtain ⟨q, r, hq, hr, q0, r0, qr, qn, qs, rn, rs, qt⟩ := ev_two_ok htwo
  refine lw_call (As := [.int (xs 1), .int (xs 2), .int (xs 3), .int (xs 4), .int (xs 5)]) (rest := []) hcx lwk_218 dl_218 (fun M hM => ev_exec_ok en_all ev_MT_ok l 20 _ M hM _ _ _ _ _ hq) (by decide) hg_0 hwo hS has hbx rfl hsz (by decide) (by omega) (by omega) fun ads1 ws1 H1 locs1 v hp1 hwo1 hS1 hv1 => ?_
  have hv := ev_ret0 hv1 q0
  subst hv
  rw [show 133 + (q.2.2.1 - 133) = 133 by omega, show 14699 + (q.2.1 - 14699) = 14699 by omega]
  have hbm1 : ads1[83]? = some bm := by obtain ⟨x, rfl⟩ := hp1; rw [List.getElem?_append_left (List.getElem?_eq_some_iff.mp hbm).1]; exact hbm
  refine lv_aload_n hx hb dl_221 rfl h2 ?_
  refine lw_arg hcx hS1 h0 h3 (k := 1) (by omega) (by decide) dl_222 dl_223 dl_224 dl_225 dl_226 ?_
  refine lw_arg hcx hS1 h0 h3 (k := 2) (by omega) (by decide) dl_227 dl_228 dl_229 dl_230 dl_231 ?_
  refine lw_arg hcx hS1 h0 h3 (k := 3) (by omega) (by decide) dl_232 dl_233 dl_234 dl_235 dl_236 ?_
  refine lw_arg hcx hS1 h0 h3 (k := 4) (by omega) (by decide) dl_237 dl_238 dl_239 dl_240 dl_241 ?_
  refine lw_arg hcx hS1 h0 h3 (k := 5) (by omega) (by decide) dl_242 dl_243 dl_244 dl_245 dl_246 ?_
  refine lw_call (As := [.int (xs 1), .int (xs 2), .int (xs 3), .int (xs 4), .int (xs 5)]) (rest := [.int (ev_i q.1.2.1)]) hcx lwk_247 dl_247 (fun M hM => ev_exec_ok en_all ev_MT_ok l 20 _ M hM _ _ _ _ _ hr) (by omega) qt hwo1 hS1 (has.mono hp1) hbm1 rfl hsz (Nat.le_of_ble_eq_true rfl) (by omega) (by omega) fun ads2 ws2 H2 locs2 v2 hp2 hwo2 hS2 hv2 => ?_
  have hv := ev_ret0 hv2 r0
  subst hv
  rw [show 133 + (r.2.2.1 - q.2.2.1) = 133 by omega, show 14699 + (r.2.1 - q.2.1) = 14699 by omega, ← qr]
  exact lv_icmp_eq (tgt := 1136) hx hb dl_250 (by decide) (fun _ => hend H2 locs2 hS2) (fun z => absurd rfl z)
theorem lwk_261 : ev_ok1 ev_MT R_law false none 261 (.invokevirtual 18) 3 66 1 0 9 [2238, 3001, 1001, 2239, 3000] = true := by decide +kernel
theorem lwk_270 : ev_ok1 ev_MT R_law false none 270 (.invokevirtual 22) 3 185 1 0 10 [8233, 8236, 1012, 8234, 8235] = true := by decide +kernel
theorem lw_f_end (hcx : lw_cx p s m c b L xs D cA) (hL : L = 6) {ads : List Nat} {ws : va_W} {H : Heap} {locs : List Loc} {ls : Array Slot} {bx bm : Nat} (hwo : ev_wo D cA (fun q => s.heap.size ≤ q) ads ws 133 ev_h0 H) (hS : va_S (fun q => s.heap.size ≤ q) s.heap H locs) (h0 : ls[0]? = some (.val (.ref b))) (h1 : ls[1]? = some (.val (.ref bx))) (h2 : ls[2]? = some (.val (.ref bm))) (h3 : ls[3]? = some (.val (.int 0))) (hsz : ls.size = 4) (hbx : ads[0]? = some bx) (hbm : ads[83]? = some bm) (hend : ∀ (H1 : Heap) (locs1 : List Loc), va_S (fun q => s.heap.size ≤ q) s.heap H1 locs1 → W p l e room_1 s m #[Value.ref b] below meth c H1 locs1 133 14699 Q (F0 m 1136 ls [])) : W p l e room_1 s m #[Value.ref b] below meth c H locs 133 14699 Q (F0 m 255 ls []) := by
  obtain ⟨hx, hb, hml, hown, hts, hX, hbl, hK, hNw⟩ := id hcx
  refine lv_aload_n hx hb dl_255 rfl h1 ?_
  refine lw_arg hcx hS h0 h3 (k := 1) (by omega) (by decide) dl_256 dl_257 dl_258 dl_259 dl_260 ?_
  obtain ⟨as, has, htwo⟩ := rs_end ads (xs 1)
  obtain ⟨q, r, hq, hr, q0, r0, qr, qn, qs, rn, rs, qt⟩ := ev_two_ok htwo
  refine lw_call (As := [.int (xs 1)]) (rest := []) hcx lwk_261 dl_261 (fun M hM => ev_exec_ok en_all ev_MT_ok l 20 _ M hM _ _ _ _ _ hq) (by decide) hg_0 hwo hS has hbx rfl hsz (by decide) (by omega) (by omega) fun ads1 ws1 H1 locs1 v hp1 hwo1 hS1 hv1 => ?_
  have hv := ev_ret0 hv1 q0
  subst hv
  rw [show 133 + (q.2.2.1 - 133) = 133 by omega, show 14699 + (q.2.1 - 14699) = 14699 by omega]
  have hbm1 : ads1[83]? = some bm := by obtain ⟨x, rfl⟩ := hp1; rw [List.getElem?_append_left (List.getElem?_eq_some_iff.mp hbm).1]; exact hbm
  refine lv_aload_n hx hb dl_264 rfl h2 ?_
  refine lw_arg hcx hS1 h0 h3 (k := 1) (by omega) (by decide) dl_265 dl_266 dl_267 dl_268 dl_269 ?_
  refine lw_call (As := [.int (xs 1)]) (rest := [.int (ev_i q.1.2.1)]) hcx lwk_270 dl_270 (fun M hM => ev_exec_ok en_all ev_MT_ok l 20 _ M hM _ _ _ _ _ hr) (by omega) qt hwo1 hS1 (has.mono hp1) hbm1 rfl hsz (Nat.le_of_ble_eq_true rfl) (by omega) (by omega) fun ads2 ws2 H2 locs2 v2 hp2 hwo2 hS2 hv2 => ?_
  have hv := ev_ret0 hv2 r0
  subst hv
  rw [show 133 + (r.2.2.1 - q.2.2.1) = 133 by omega, show 14699 + (r.2.1 - q.2.1) = 14699 by omega, ← qr]
  exact lv_icmp_eq (tgt := 1136) hx hb dl_273 (by decide) (fun _ => hend H2 locs2 hS2) (fun z => absurd rfl z)
theorem lwk_279 : ev_ok1 ev_MT R_law false none 279 (.invokevirtual 23) 3 67 0 0 9 [3006, 3009, 1001, 3007, 3008] = true := by decide +kernel
theorem lwk_283 : ev_ok1 ev_MT R_law false none 283 (.invokevirtual 27) 3 116 0 0 10 [6221, 6224, 1012, 6222, 6223] = true := by decide +kernel
theorem lw_f_meadow (hcx : lw_cx p s m c b L xs D cA) (hL : L = 6) {ads : List Nat} {ws : va_W} {H : Heap} {locs : List Loc} {ls : Array Slot} {bx bm : Nat} (hwo : ev_wo D cA (fun q => s.heap.size ≤ q) ads ws 133 ev_h0 H) (hS : va_S (fun q => s.heap.size ≤ q) s.heap H locs) (h0 : ls[0]? = some (.val (.ref b))) (h1 : ls[1]? = some (.val (.ref bx))) (h2 : ls[2]? = some (.val (.ref bm))) (h3 : ls[3]? = some (.val (.int 0))) (hsz : ls.size = 4) (hbx : ads[0]? = some bx) (hbm : ads[83]? = some bm) (hend : ∀ (H1 : Heap) (locs1 : List Loc), va_S (fun q => s.heap.size ≤ q) s.heap H1 locs1 → W p l e room_1 s m #[Value.ref b] below meth c H1 locs1 133 14699 Q (F0 m 1136 ls [])) : W p l e room_1 s m #[Value.ref b] below meth c H locs 133 14699 Q (F0 m 278 ls []) := by
  obtain ⟨hx, hb, hml, hown, hts, hX, hbl, hK, hNw⟩ := id hcx
  refine lv_aload_n hx hb dl_278 rfl h1 ?_
  obtain ⟨as, has, htwo⟩ := rs_meadow ads
  obtain ⟨q, r, hq, hr, q0, r0, qr, qn, qs, rn, rs, qt⟩ := ev_two_ok htwo
  refine lw_call (As := []) (rest := []) hcx lwk_279 dl_279 (fun M hM => ev_exec_ok en_all ev_MT_ok l 20 _ M hM _ _ _ _ _ hq) (by decide) hg_0 hwo hS has hbx rfl hsz (by decide) (by omega) (by omega) fun ads1 ws1 H1 locs1 v hp1 hwo1 hS1 hv1 => ?_
  have hv := ev_ret0 hv1 q0
  subst hv
  rw [show 133 + (q.2.2.1 - 133) = 133 by omega, show 14699 + (q.2.1 - 14699) = 14699 by omega]
  have hbm1 : ads1[83]? = some bm := by obtain ⟨x, rfl⟩ := hp1; rw [List.getElem?_append_left (List.getElem?_eq_some_iff.mp hbm).1]; exact hbm
  refine lv_aload_n hx hb dl_282 rfl h2 ?_
  refine lw_call (As := []) (rest := [.int (ev_i q.1.2.1)]) hcx lwk_283 dl_283 (fun M hM => ev_exec_ok en_all ev_MT_ok l 20 _ M hM _ _ _ _ _ hr) (by omega) qt hwo1 hS1 (has.mono hp1) hbm1 rfl hsz (Nat.le_of_ble_eq_true rfl) (by omega) (by omega) fun ads2 ws2 H2 locs2 v2 hp2 hwo2 hS2 hv2 => ?_
  have hv := ev_ret0 hv2 r0
  subst hv
  rw [show 133 + (r.2.2.1 - q.2.2.1) = 133 by omega, show 14699 + (r.2.1 - q.2.1) = 14699 by omega, ← qr]
  exact lv_icmp_eq (tgt := 1136) hx hb dl_286 (by decide) (fun _ => hend H2 locs2 hS2) (fun z => absurd rfl z)
theorem lwk_297 : ev_ok1 ev_MT R_law false none 297 (.invokevirtual 28) 3 68 1 0 9 [4005, 4008, 1001, 4006, 4007] = true := by decide +kernel
theorem lwk_306 : ev_ok1 ev_MT R_law false none 306 (.invokevirtual 31) 3 117 1 0 10 [7148, 7151, 1012, 7149, 7150] = true := by decide +kernel
theorem lw_f_fault (hcx : lw_cx p s m c b L xs D cA) (hL : L = 6) {ads : List Nat} {ws : va_W} {H : Heap} {locs : List Loc} {ls : Array Slot} {bx bm : Nat} (hwo : ev_wo D cA (fun q => s.heap.size ≤ q) ads ws 133 ev_h0 H) (hS : va_S (fun q => s.heap.size ≤ q) s.heap H locs) (h0 : ls[0]? = some (.val (.ref b))) (h1 : ls[1]? = some (.val (.ref bx))) (h2 : ls[2]? = some (.val (.ref bm))) (h3 : ls[3]? = some (.val (.int 0))) (hsz : ls.size = 4) (hbx : ads[0]? = some bx) (hbm : ads[83]? = some bm) (hend : ∀ (H1 : Heap) (locs1 : List Loc), va_S (fun q => s.heap.size ≤ q) s.heap H1 locs1 → W p l e room_1 s m #[Value.ref b] below meth c H1 locs1 133 14699 Q (F0 m 1136 ls [])) : W p l e room_1 s m #[Value.ref b] below meth c H locs 133 14699 Q (F0 m 291 ls []) := by
  obtain ⟨hx, hb, hml, hown, hts, hX, hbl, hK, hNw⟩ := id hcx
  refine lv_aload_n hx hb dl_291 rfl h1 ?_
  refine lw_arg hcx hS h0 h3 (k := 1) (by omega) (by decide) dl_292 dl_293 dl_294 dl_295 dl_296 ?_
  obtain ⟨as, has, htwo⟩ := rs_fault ads (xs 1)
  obtain ⟨q, r, hq, hr, q0, r0, qr, qn, qs, rn, rs, qt⟩ := ev_two_ok htwo
  refine lw_call (As := [.int (xs 1)]) (rest := []) hcx lwk_297 dl_297 (fun M hM => ev_exec_ok en_all ev_MT_ok l 20 _ M hM _ _ _ _ _ hq) (by decide) hg_0 hwo hS has hbx rfl hsz (by decide) (by omega) (by omega) fun ads1 ws1 H1 locs1 v hp1 hwo1 hS1 hv1 => ?_
  have hv := ev_ret0 hv1 q0
  subst hv
  rw [show 133 + (q.2.2.1 - 133) = 133 by omega, show 14699 + (q.2.1 - 14699) = 14699 by omega]
  have hbm1 : ads1[83]? = some bm := by obtain ⟨x, rfl⟩ := hp1; rw [List.getElem?_append_left (List.getElem?_eq_some_iff.mp hbm).1]; exact hbm
  refine lv_aload_n hx hb dl_300 rfl h2 ?_
  refine lw_arg hcx hS1 h0 h3 (k := 1) (by omega) (by decide) dl_301 dl_302 dl_303 dl_304 dl_305 ?_
  refine lw_call (As := [.int (xs 1)]) (rest := [.int (ev_i q.1.2.1)]) hcx lwk_306 dl_306 (fun M hM => ev_exec_ok en_all ev_MT_ok l 20 _ M hM _ _ _ _ _ hr) (by omega) qt hwo1 hS1 (has.mono hp1) hbm1 rfl hsz (Nat.le_of_ble_eq_true rfl) (by omega) (by omega) fun ads2 ws2 H2 locs2 v2 hp2 hwo2 hS2 hv2 => ?_
  have hv := ev_ret0 hv2 r0
  subst hv
  rw [show 133 + (r.2.2.1 - q.2.2.1) = 133 by omega, show 14699 + (r.2.1 - q.2.1) = 14699 by omega, ← qr]
  exact lv_icmp_eq (tgt := 1136) hx hb dl_309 (by decide) (fun _ => hend H2 locs2 hS2) (fun z => absurd rfl z)
theorem lwk_320 : ev_ok1 ev_MT R_law false none 320 (.invokevirtual 32) 3 69 1 0 9 [4009, 4012, 1001, 4010, 4011] = true := by decide +kernel
theorem lwk_329 : ev_ok1 ev_MT R_law false none 329 (.invokevirtual 35) 3 139 1 0 10 [7152, 7155, 1012, 7153, 7154] = true := by decide +kernel
theorem lw_f_thing (hcx : lw_cx p s m c b L xs D cA) (hL : L = 6) {ads : List Nat} {ws : va_W} {H : Heap} {locs : List Loc} {ls : Array Slot} {bx bm : Nat} (hwo : ev_wo D cA (fun q => s.heap.size ≤ q) ads ws 133 ev_h0 H) (hS : va_S (fun q => s.heap.size ≤ q) s.heap H locs) (h0 : ls[0]? = some (.val (.ref b))) (h1 : ls[1]? = some (.val (.ref bx))) (h2 : ls[2]? = some (.val (.ref bm))) (h3 : ls[3]? = some (.val (.int 0))) (hsz : ls.size = 4) (hbx : ads[0]? = some bx) (hbm : ads[83]? = some bm) (hend : ∀ (H1 : Heap) (locs1 : List Loc), va_S (fun q => s.heap.size ≤ q) s.heap H1 locs1 → W p l e room_1 s m #[Value.ref b] below meth c H1 locs1 133 14699 Q (F0 m 1136 ls [])) : W p l e room_1 s m #[Value.ref b] below meth c H locs 133 14699 Q (F0 m 314 ls []) := by
  obtain ⟨hx, hb, hml, hown, hts, hX, hbl, hK, hNw⟩ := id hcx
  refine lv_aload_n hx hb dl_314 rfl h1 ?_
  refine lw_arg hcx hS h0 h3 (k := 1) (by omega) (by decide) dl_315 dl_316 dl_317 dl_318 dl_319 ?_
  obtain ⟨as, has, htwo⟩ := rs_thing ads (xs 1)
  obtain ⟨q, r, hq, hr, q0, r0, qr, qn, qs, rn, rs, qt⟩ := ev_two_ok htwo
  refine lw_call (As := [.int (xs 1)]) (rest := []) hcx lwk_320 dl_320 (fun M hM => ev_exec_ok en_all ev_MT_ok l 20 _ M hM _ _ _ _ _ hq) (by decide) hg_0 hwo hS has hbx rfl hsz (by decide) (by omega) (by omega) fun ads1 ws1 H1 locs1 v hp1 hwo1 hS1 hv1 => ?_
  have hv := ev_ret0 hv1 q0
  subst hv
  rw [show 133 + (q.2.2.1 - 133) = 133 by omega, show 14699 + (q.2.1 - 14699) = 14699 by omega]
  have hbm1 : ads1[83]? = some bm := by obtain ⟨x, rfl⟩ := hp1; rw [List.getElem?_append_left (List.getElem?_eq_some_iff.mp hbm).1]; exact hbm
  refine lv_aload_n hx hb dl_323 rfl h2 ?_
  refine lw_arg hcx hS1 h0 h3 (k := 1) (by omega) (by decide) dl_324 dl_325 dl_326 dl_327 dl_328 ?_
  refine lw_call (As := [.int (xs 1)]) (rest := [.int (ev_i q.1.2.1)]) hcx lwk_329 dl_329 (fun M hM => ev_exec_ok en_all ev_MT_ok l 20 _ M hM _ _ _ _ _ hr) (by omega) qt hwo1 hS1 (has.mono hp1) hbm1 rfl hsz (Nat.le_of_ble_eq_true rfl) (by omega) (by omega) fun ads2 ws2 H2 locs2 v2 hp2 hwo2 hS2 hv2 => ?_
  have hv := ev_ret0 hv2 r0
  subst hv
  rw [show 133 + (r.2.2.1 - q.2.2.1) = 133 by omega, show 14699 + (r.2.1 - q.2.1) = 14699 by omega, ← qr]
  exact lv_icmp_eq (tgt := 1136) hx hb dl_332 (by decide) (fun _ => hend H2 locs2 hS2) (fun z => absurd rfl z)
theorem lwk_348 : ev_ok1 ev_MT R_law false none 348 (.invokevirtual 36) 3 70 2 0 9 [4017, 4020, 1001, 4018, 4019] = true := by decide +kernel
theorem lwk_362 : ev_ok1 ev_MT R_law false none 362 (.invokevirtual 40) 3 140 2 0 10 [7163, 7166, 1012, 7164, 7165] = true := by decide +kernel
theorem lw_f_glyph (hcx : lw_cx p s m c b L xs D cA) (hL : L = 6) {ads : List Nat} {ws : va_W} {H : Heap} {locs : List Loc} {ls : Array Slot} {bx bm : Nat} (hwo : ev_wo D cA (fun q => s.heap.size ≤ q) ads ws 133 ev_h0 H) (hS : va_S (fun q => s.heap.size ≤ q) s.heap H locs) (h0 : ls[0]? = some (.val (.ref b))) (h1 : ls[1]? = some (.val (.ref bx))) (h2 : ls[2]? = some (.val (.ref bm))) (h3 : ls[3]? = some (.val (.int 0))) (hsz : ls.size = 4) (hbx : ads[0]? = some bx) (hbm : ads[83]? = some bm) (hend : ∀ (H1 : Heap) (locs1 : List Loc), va_S (fun q => s.heap.size ≤ q) s.heap H1 locs1 → W p l e room_1 s m #[Value.ref b] below meth c H1 locs1 133 14699 Q (F0 m 1136 ls [])) : W p l e room_1 s m #[Value.ref b] below meth c H locs 133 14699 Q (F0 m 337 ls []) := by
  obtain ⟨hx, hb, hml, hown, hts, hX, hbl, hK, hNw⟩ := id hcx
  refine lv_aload_n hx hb dl_337 rfl h1 ?_
  refine lw_arg hcx hS h0 h3 (k := 1) (by omega) (by decide) dl_338 dl_339 dl_340 dl_341 dl_342 ?_
  refine lw_arg hcx hS h0 h3 (k := 2) (by omega) (by decide) dl_343 dl_344 dl_345 dl_346 dl_347 ?_
  obtain ⟨as, has, htwo⟩ := rs_glyph ads (xs 1) (xs 2)
  obtain ⟨q, r, hq, hr, q0, r0, qr, qn, qs, rn, rs, qt⟩ := ev_two_ok htwo
  refine lw_call (As := [.int (xs 1), .int (xs 2)]) (rest := []) hcx lwk_348 dl_348 (fun M hM => ev_exec_ok en_all ev_MT_ok l 20 _ M hM _ _ _ _ _ hq) (by decide) hg_0 hwo hS has hbx rfl hsz (by decide) (by omega) (by omega) fun ads1 ws1 H1 locs1 v hp1 hwo1 hS1 hv1 => ?_
  have hv := ev_ret0 hv1 q0
  subst hv
  rw [show 133 + (q.2.2.1 - 133) = 133 by omega, show 14699 + (q.2.1 - 14699) = 14699 by omega]
  have hbm1 : ads1[83]? = some bm := by obtain ⟨x, rfl⟩ := hp1; rw [List.getElem?_append_left (List.getElem?_eq_some_iff.mp hbm).1]; exact hbm
  refine lv_aload_n hx hb dl_351 rfl h2 ?_
  refine lw_arg hcx hS1 h0 h3 (k := 1) (by omega) (by decide) dl_352 dl_353 dl_354 dl_355 dl_356 ?_
  refine lw_arg hcx hS1 h0 h3 (k := 2) (by omega) (by decide) dl_357 dl_358 dl_359 dl_360 dl_361 ?_
  refine lw_call (As := [.int (xs 1), .int (xs 2)]) (rest := [.int (ev_i q.1.2.1)]) hcx lwk_362 dl_362 (fun M hM => ev_exec_ok en_all ev_MT_ok l 20 _ M hM _ _ _ _ _ hr) (by omega) qt hwo1 hS1 (has.mono hp1) hbm1 rfl hsz (Nat.le_of_ble_eq_true rfl) (by omega) (by omega) fun ads2 ws2 H2 locs2 v2 hp2 hwo2 hS2 hv2 => ?_
  have hv := ev_ret0 hv2 r0
  subst hv
  rw [show 133 + (r.2.2.1 - q.2.2.1) = 133 by omega, show 14699 + (r.2.1 - q.2.1) = 14699 by omega, ← qr]
  exact lv_icmp_eq (tgt := 1136) hx hb dl_365 (by decide) (fun _ => hend H2 locs2 hS2) (fun z => absurd rfl z)
theorem lwk_381 : ev_ok1 ev_MT R_law false none 381 (.invokevirtual 41) 3 71 2 0 9 [4090, 4093, 1001, 4091, 4092] = true := by decide +kernel
theorem lwk_395 : ev_ok1 ev_MT R_law false none 395 (.invokevirtual 44) 3 142 2 0 10 [8005, 8008, 1012, 8006, 8007] = true := by decide +kernel
theorem lw_f_plot (hcx : lw_cx p s m c b L xs D cA) (hL : L = 6) {ads : List Nat} {ws : va_W} {H : Heap} {locs : List Loc} {ls : Array Slot} {bx bm : Nat} (hwo : ev_wo D cA (fun q => s.heap.size ≤ q) ads ws 133 ev_h0 H) (hS : va_S (fun q => s.heap.size ≤ q) s.heap H locs) (h0 : ls[0]? = some (.val (.ref b))) (h1 : ls[1]? = some (.val (.ref bx))) (h2 : ls[2]? = some (.val (.ref bm))) (h3 : ls[3]? = some (.val (.int 0))) (hsz : ls.size = 4) (hbx : ads[0]? = some bx) (hbm : ads[83]? = some bm) (hend : ∀ (H1 : Heap) (locs1 : List Loc), va_S (fun q => s.heap.size ≤ q) s.heap H1 locs1 → W p l e room_1 s m #[Value.ref b] below meth c H1 locs1 133 14699 Q (F0 m 1136 ls [])) : W p l e room_1 s m #[Value.ref b] below meth c H locs 133 14699 Q (F0 m 370 ls []) := by
  obtain ⟨hx, hb, hml, hown, hts, hX, hbl, hK, hNw⟩ := id hcx
  refine lv_aload_n hx hb dl_370 rfl h1 ?_
  refine lw_arg hcx hS h0 h3 (k := 1) (by omega) (by decide) dl_371 dl_372 dl_373 dl_374 dl_375 ?_
  refine lw_arg hcx hS h0 h3 (k := 2) (by omega) (by decide) dl_376 dl_377 dl_378 dl_379 dl_380 ?_
  obtain ⟨as, has, htwo⟩ := rs_plot ads (xs 1) (xs 2)
  obtain ⟨q, r, hq, hr, q0, r0, qr, qn, qs, rn, rs, qt⟩ := ev_two_ok htwo
  refine lw_call (As := [.int (xs 1), .int (xs 2)]) (rest := []) hcx lwk_381 dl_381 (fun M hM => ev_exec_ok en_all ev_MT_ok l 20 _ M hM _ _ _ _ _ hq) (by decide) hg_0 hwo hS has hbx rfl hsz (by decide) (by omega) (by omega) fun ads1 ws1 H1 locs1 v hp1 hwo1 hS1 hv1 => ?_
  have hv := ev_ret0 hv1 q0
  subst hv
  rw [show 133 + (q.2.2.1 - 133) = 133 by omega, show 14699 + (q.2.1 - 14699) = 14699 by omega]
  have hbm1 : ads1[83]? = some bm := by obtain ⟨x, rfl⟩ := hp1; rw [List.getElem?_append_left (List.getElem?_eq_some_iff.mp hbm).1]; exact hbm
  refine lv_aload_n hx hb dl_384 rfl h2 ?_
  refine lw_arg hcx hS1 h0 h3 (k := 1) (by omega) (by decide) dl_385 dl_386 dl_387 dl_388 dl_389 ?_
  refine lw_arg hcx hS1 h0 h3 (k := 2) (by omega) (by decide) dl_390 dl_391 dl_392 dl_393 dl_394 ?_
  refine lw_call (As := [.int (xs 1), .int (xs 2)]) (rest := [.int (ev_i q.1.2.1)]) hcx lwk_395 dl_395 (fun M hM => ev_exec_ok en_all ev_MT_ok l 20 _ M hM _ _ _ _ _ hr) (by omega) qt hwo1 hS1 (has.mono hp1) hbm1 rfl hsz (Nat.le_of_ble_eq_true rfl) (by omega) (by omega) fun ads2 ws2 H2 locs2 v2 hp2 hwo2 hS2 hv2 => ?_
  have hv := ev_ret0 hv2 r0
  subst hv
  rw [show 133 + (r.2.2.1 - q.2.2.1) = 133 by omega, show 14699 + (r.2.1 - q.2.1) = 14699 by omega, ← qr]
  exact lv_icmp_eq (tgt := 1136) hx hb dl_398 (by decide) (fun _ => hend H2 locs2 hS2) (fun z => absurd rfl z)
theorem lwk_409 : ev_ok1 ev_MT R_law false none 409 (.invokevirtual 45) 3 72 1 0 9 [4103, 4106, 1001, 4104, 4105] = true := by decide +kernel
theorem lwk_418 : ev_ok1 ev_MT R_law false none 418 (.invokevirtual 48) 3 144 1 0 10 [8017, 8020, 1012, 8018, 8019] = true := by decide +kernel
theorem lw_f_mow (hcx : lw_cx p s m c b L xs D cA) (hL : L = 6) {ads : List Nat} {ws : va_W} {H : Heap} {locs : List Loc} {ls : Array Slot} {bx bm : Nat} (hwo : ev_wo D cA (fun q => s.heap.size ≤ q) ads ws 133 ev_h0 H) (hS : va_S (fun q => s.heap.size ≤ q) s.heap H locs) (h0 : ls[0]? = some (.val (.ref b))) (h1 : ls[1]? = some (.val (.ref bx))) (h2 : ls[2]? = some (.val (.ref bm))) (h3 : ls[3]? = some (.val (.int 0))) (hsz : ls.size = 4) (hbx : ads[0]? = some bx) (hbm : ads[83]? = some bm) (hend : ∀ (H1 : Heap) (locs1 : List Loc), va_S (fun q => s.heap.size ≤ q) s.heap H1 locs1 → W p l e room_1 s m #[Value.ref b] below meth c H1 locs1 133 14699 Q (F0 m 1136 ls [])) : W p l e room_1 s m #[Value.ref b] below meth c H locs 133 14699 Q (F0 m 403 ls []) := by
  obtain ⟨hx, hb, hml, hown, hts, hX, hbl, hK, hNw⟩ := id hcx
  refine lv_aload_n hx hb dl_403 rfl h1 ?_
  refine lw_arg hcx hS h0 h3 (k := 1) (by omega) (by decide) dl_404 dl_405 dl_406 dl_407 dl_408 ?_
  obtain ⟨as, has, htwo⟩ := rs_mow ads (xs 1)
  obtain ⟨q, r, hq, hr, q0, r0, qr, qn, qs, rn, rs, qt⟩ := ev_two_ok htwo
  refine lw_call (As := [.int (xs 1)]) (rest := []) hcx lwk_409 dl_409 (fun M hM => ev_exec_ok en_all ev_MT_ok l 20 _ M hM _ _ _ _ _ hq) (by decide) hg_0 hwo hS has hbx rfl hsz (by decide) (by omega) (by omega) fun ads1 ws1 H1 locs1 v hp1 hwo1 hS1 hv1 => ?_
  have hv := ev_ret0 hv1 q0
  subst hv
  rw [show 133 + (q.2.2.1 - 133) = 133 by omega, show 14699 + (q.2.1 - 14699) = 14699 by omega]
  have hbm1 : ads1[83]? = some bm := by obtain ⟨x, rfl⟩ := hp1; rw [List.getElem?_append_left (List.getElem?_eq_some_iff.mp hbm).1]; exact hbm
  refine lv_aload_n hx hb dl_412 rfl h2 ?_
  refine lw_arg hcx hS1 h0 h3 (k := 1) (by omega) (by decide) dl_413 dl_414 dl_415 dl_416 dl_417 ?_
  refine lw_call (As := [.int (xs 1)]) (rest := [.int (ev_i q.1.2.1)]) hcx lwk_418 dl_418 (fun M hM => ev_exec_ok en_all ev_MT_ok l 20 _ M hM _ _ _ _ _ hr) (by omega) qt hwo1 hS1 (has.mono hp1) hbm1 rfl hsz (Nat.le_of_ble_eq_true rfl) (by omega) (by omega) fun ads2 ws2 H2 locs2 v2 hp2 hwo2 hS2 hv2 => ?_
  have hv := ev_ret0 hv2 r0
  subst hv
  rw [show 133 + (r.2.2.1 - q.2.2.1) = 133 by omega, show 14699 + (r.2.1 - q.2.1) = 14699 by omega, ← qr]
  exact lv_icmp_eq (tgt := 1136) hx hb dl_421 (by decide) (fun _ => hend H2 locs2 hS2) (fun z => absurd rfl z)
theorem lwk_432 : ev_ok1 ev_MT R_law false none 432 (.invokevirtual 49) 3 73 1 0 9 [4120, 4123, 1001, 4121, 4122] = true := by decide +kernel
theorem lwk_441 : ev_ok1 ev_MT R_law false none 441 (.invokevirtual 52) 3 145 1 0 10 [8028, 8031, 1012, 8029, 8030] = true := by decide +kernel
theorem lw_f_sow (hcx : lw_cx p s m c b L xs D cA) (hL : L = 6) {ads : List Nat} {ws : va_W} {H : Heap} {locs : List Loc} {ls : Array Slot} {bx bm : Nat} (hwo : ev_wo D cA (fun q => s.heap.size ≤ q) ads ws 133 ev_h0 H) (hS : va_S (fun q => s.heap.size ≤ q) s.heap H locs) (h0 : ls[0]? = some (.val (.ref b))) (h1 : ls[1]? = some (.val (.ref bx))) (h2 : ls[2]? = some (.val (.ref bm))) (h3 : ls[3]? = some (.val (.int 0))) (hsz : ls.size = 4) (hbx : ads[0]? = some bx) (hbm : ads[83]? = some bm) (hend : ∀ (H1 : Heap) (locs1 : List Loc), va_S (fun q => s.heap.size ≤ q) s.heap H1 locs1 → W p l e room_1 s m #[Value.ref b] below meth c H1 locs1 133 14699 Q (F0 m 1136 ls [])) : W p l e room_1 s m #[Value.ref b] below meth c H locs 133 14699 Q (F0 m 426 ls []) := by
  obtain ⟨hx, hb, hml, hown, hts, hX, hbl, hK, hNw⟩ := id hcx
  refine lv_aload_n hx hb dl_426 rfl h1 ?_
  refine lw_arg hcx hS h0 h3 (k := 1) (by omega) (by decide) dl_427 dl_428 dl_429 dl_430 dl_431 ?_
  obtain ⟨as, has, htwo⟩ := rs_sow ads (xs 1)
  obtain ⟨q, r, hq, hr, q0, r0, qr, qn, qs, rn, rs, qt⟩ := ev_two_ok htwo
  refine lw_call (As := [.int (xs 1)]) (rest := []) hcx lwk_432 dl_432 (fun M hM => ev_exec_ok en_all ev_MT_ok l 20 _ M hM _ _ _ _ _ hq) (by decide) hg_0 hwo hS has hbx rfl hsz (by decide) (by omega) (by omega) fun ads1 ws1 H1 locs1 v hp1 hwo1 hS1 hv1 => ?_
  have hv := ev_ret0 hv1 q0
  subst hv
  rw [show 133 + (q.2.2.1 - 133) = 133 by omega, show 14699 + (q.2.1 - 14699) = 14699 by omega]
  have hbm1 : ads1[83]? = some bm := by obtain ⟨x, rfl⟩ := hp1; rw [List.getElem?_append_left (List.getElem?_eq_some_iff.mp hbm).1]; exact hbm
  refine lv_aload_n hx hb dl_435 rfl h2 ?_
  refine lw_arg hcx hS1 h0 h3 (k := 1) (by omega) (by decide) dl_436 dl_437 dl_438 dl_439 dl_440 ?_
  refine lw_call (As := [.int (xs 1)]) (rest := [.int (ev_i q.1.2.1)]) hcx lwk_441 dl_441 (fun M hM => ev_exec_ok en_all ev_MT_ok l 20 _ M hM _ _ _ _ _ hr) (by omega) qt hwo1 hS1 (has.mono hp1) hbm1 rfl hsz (Nat.le_of_ble_eq_true rfl) (by omega) (by omega) fun ads2 ws2 H2 locs2 v2 hp2 hwo2 hS2 hv2 => ?_
  have hv := ev_ret0 hv2 r0
  subst hv
  rw [show 133 + (r.2.2.1 - q.2.2.1) = 133 by omega, show 14699 + (r.2.1 - q.2.1) = 14699 by omega, ← qr]
  exact lv_icmp_eq (tgt := 1136) hx hb dl_444 (by decide) (fun _ => hend H2 locs2 hS2) (fun z => absurd rfl z)
theorem lwk_450 : ev_ok1 ev_MT R_law false none 450 (.invokevirtual 53) 3 74 0 0 9 [4124, 4127, 1001, 4125, 4126] = true := by decide +kernel
theorem lwk_454 : ev_ok1 ev_MT R_law false none 454 (.invokevirtual 56) 3 147 0 0 10 [8032, 8035, 1012, 8033, 8034] = true := by decide +kernel
theorem lw_f_year (hcx : lw_cx p s m c b L xs D cA) (hL : L = 6) {ads : List Nat} {ws : va_W} {H : Heap} {locs : List Loc} {ls : Array Slot} {bx bm : Nat} (hwo : ev_wo D cA (fun q => s.heap.size ≤ q) ads ws 133 ev_h0 H) (hS : va_S (fun q => s.heap.size ≤ q) s.heap H locs) (h0 : ls[0]? = some (.val (.ref b))) (h1 : ls[1]? = some (.val (.ref bx))) (h2 : ls[2]? = some (.val (.ref bm))) (h3 : ls[3]? = some (.val (.int 0))) (hsz : ls.size = 4) (hbx : ads[0]? = some bx) (hbm : ads[83]? = some bm) (hend : ∀ (H1 : Heap) (locs1 : List Loc), va_S (fun q => s.heap.size ≤ q) s.heap H1 locs1 → W p l e room_1 s m #[Value.ref b] below meth c H1 locs1 133 14699 Q (F0 m 1136 ls [])) : W p l e room_1 s m #[Value.ref b] below meth c H locs 133 14699 Q (F0 m 449 ls []) := by
  obtain ⟨hx, hb, hml, hown, hts, hX, hbl, hK, hNw⟩ := id hcx
  refine lv_aload_n hx hb dl_449 rfl h1 ?_
  obtain ⟨as, has, htwo⟩ := rs_year ads
  obtain ⟨q, r, hq, hr, q0, r0, qr, qn, qs, rn, rs, qt⟩ := ev_two_ok htwo
  refine lw_call (As := []) (rest := []) hcx lwk_450 dl_450 (fun M hM => ev_exec_ok en_all ev_MT_ok l 20 _ M hM _ _ _ _ _ hq) (by decide) hg_0 hwo hS has hbx rfl hsz (by decide) (by omega) (by omega) fun ads1 ws1 H1 locs1 v hp1 hwo1 hS1 hv1 => ?_
  have hv := ev_ret0 hv1 q0
  subst hv
  rw [show 133 + (q.2.2.1 - 133) = 133 by omega, show 14699 + (q.2.1 - 14699) = 14699 by omega]
  have hbm1 : ads1[83]? = some bm := by obtain ⟨x, rfl⟩ := hp1; rw [List.getElem?_append_left (List.getElem?_eq_some_iff.mp hbm).1]; exact hbm
  refine lv_aload_n hx hb dl_453 rfl h2 ?_
  refine lw_call (As := []) (rest := [.int (ev_i q.1.2.1)]) hcx lwk_454 dl_454 (fun M hM => ev_exec_ok en_all ev_MT_ok l 20 _ M hM _ _ _ _ _ hr) (by omega) qt hwo1 hS1 (has.mono hp1) hbm1 rfl hsz (Nat.le_of_ble_eq_true rfl) (by omega) (by omega) fun ads2 ws2 H2 locs2 v2 hp2 hwo2 hS2 hv2 => ?_
  have hv := ev_ret0 hv2 r0
  subst hv
  rw [show 133 + (r.2.2.1 - q.2.2.1) = 133 by omega, show 14699 + (r.2.1 - q.2.1) = 14699 by omega, ← qr]
  exact lv_icmp_eq (tgt := 1136) hx hb dl_457 (by decide) (fun _ => hend H2 locs2 hS2) (fun z => absurd rfl z)
theorem lwk_463 : ev_ok1 ev_MT R_law false none 463 (.invokevirtual 57) 3 75 0 0 9 [4144, 4147, 1001, 4145, 4146] = true := by decide +kernel
theorem lwk_467 : ev_ok1 ev_MT R_law false none 467 (.invokevirtual 61) 3 148 0 0 10 [8040, 8043, 1012, 8041, 8042] = true := by decide +kernel
theorem lw_f_undo (hcx : lw_cx p s m c b L xs D cA) (hL : L = 6) {ads : List Nat} {ws : va_W} {H : Heap} {locs : List Loc} {ls : Array Slot} {bx bm : Nat} (hwo : ev_wo D cA (fun q => s.heap.size ≤ q) ads ws 133 ev_h0 H) (hS : va_S (fun q => s.heap.size ≤ q) s.heap H locs) (h0 : ls[0]? = some (.val (.ref b))) (h1 : ls[1]? = some (.val (.ref bx))) (h2 : ls[2]? = some (.val (.ref bm))) (h3 : ls[3]? = some (.val (.int 0))) (hsz : ls.size = 4) (hbx : ads[0]? = some bx) (hbm : ads[83]? = some bm) (hend : ∀ (H1 : Heap) (locs1 : List Loc), va_S (fun q => s.heap.size ≤ q) s.heap H1 locs1 → W p l e room_1 s m #[Value.ref b] below meth c H1 locs1 133 14699 Q (F0 m 1136 ls [])) : W p l e room_1 s m #[Value.ref b] below meth c H locs 133 14699 Q (F0 m 462 ls []) := by
  obtain ⟨hx, hb, hml, hown, hts, hX, hbl, hK, hNw⟩ := id hcx
  refine lv_aload_n hx hb dl_462 rfl h1 ?_
  obtain ⟨as, has, htwo⟩ := rs_undo ads
  obtain ⟨q, r, hq, hr, q0, r0, qr, qn, qs, rn, rs, qt⟩ := ev_two_ok htwo
  refine lw_call (As := []) (rest := []) hcx lwk_463 dl_463 (fun M hM => ev_exec_ok en_all ev_MT_ok l 20 _ M hM _ _ _ _ _ hq) (by decide) hg_0 hwo hS has hbx rfl hsz (by decide) (by omega) (by omega) fun ads1 ws1 H1 locs1 v hp1 hwo1 hS1 hv1 => ?_
  have hv := ev_ret0 hv1 q0
  subst hv
  rw [show 133 + (q.2.2.1 - 133) = 133 by omega, show 14699 + (q.2.1 - 14699) = 14699 by omega]
  have hbm1 : ads1[83]? = some bm := by obtain ⟨x, rfl⟩ := hp1; rw [List.getElem?_append_left (List.getElem?_eq_some_iff.mp hbm).1]; exact hbm
  refine lv_aload_n hx hb dl_466 rfl h2 ?_
  refine lw_call (As := []) (rest := [.int (ev_i q.1.2.1)]) hcx lwk_467 dl_467 (fun M hM => ev_exec_ok en_all ev_MT_ok l 20 _ M hM _ _ _ _ _ hr) (by omega) qt hwo1 hS1 (has.mono hp1) hbm1 rfl hsz (Nat.le_of_ble_eq_true rfl) (by omega) (by omega) fun ads2 ws2 H2 locs2 v2 hp2 hwo2 hS2 hv2 => ?_
  have hv := ev_ret0 hv2 r0
  subst hv
  rw [show 133 + (r.2.2.1 - q.2.2.1) = 133 by omega, show 14699 + (r.2.1 - q.2.1) = 14699 by omega, ← qr]
  exact lv_icmp_eq (tgt := 1136) hx hb dl_470 (by decide) (fun _ => hend H2 locs2 hS2) (fun z => absurd rfl z)
theorem lwk_476 : ev_ok1 ev_MT R_law false none 476 (.invokevirtual 62) 3 76 0 0 9 [4156, 4159, 1001, 4157, 4158] = true := by decide +kernel
theorem lwk_480 : ev_ok1 ev_MT R_law false none 480 (.invokevirtual 65) 3 149 0 0 10 [8048, 8051, 1012, 8049, 8050] = true := by decide +kernel
theorem lw_f_redo (hcx : lw_cx p s m c b L xs D cA) (hL : L = 6) {ads : List Nat} {ws : va_W} {H : Heap} {locs : List Loc} {ls : Array Slot} {bx bm : Nat} (hwo : ev_wo D cA (fun q => s.heap.size ≤ q) ads ws 133 ev_h0 H) (hS : va_S (fun q => s.heap.size ≤ q) s.heap H locs) (h0 : ls[0]? = some (.val (.ref b))) (h1 : ls[1]? = some (.val (.ref bx))) (h2 : ls[2]? = some (.val (.ref bm))) (h3 : ls[3]? = some (.val (.int 0))) (hsz : ls.size = 4) (hbx : ads[0]? = some bx) (hbm : ads[83]? = some bm) (hend : ∀ (H1 : Heap) (locs1 : List Loc), va_S (fun q => s.heap.size ≤ q) s.heap H1 locs1 → W p l e room_1 s m #[Value.ref b] below meth c H1 locs1 133 14699 Q (F0 m 1136 ls [])) : W p l e room_1 s m #[Value.ref b] below meth c H locs 133 14699 Q (F0 m 475 ls []) := by
  obtain ⟨hx, hb, hml, hown, hts, hX, hbl, hK, hNw⟩ := id hcx
  refine lv_aload_n hx hb dl_475 rfl h1 ?_
  obtain ⟨as, has, htwo⟩ := rs_redo ads
  obtain ⟨q, r, hq, hr, q0, r0, qr, qn, qs, rn, rs, qt⟩ := ev_two_ok htwo
  refine lw_call (As := []) (rest := []) hcx lwk_476 dl_476 (fun M hM => ev_exec_ok en_all ev_MT_ok l 20 _ M hM _ _ _ _ _ hq) (by decide) hg_0 hwo hS has hbx rfl hsz (by decide) (by omega) (by omega) fun ads1 ws1 H1 locs1 v hp1 hwo1 hS1 hv1 => ?_
  have hv := ev_ret0 hv1 q0
  subst hv
  rw [show 133 + (q.2.2.1 - 133) = 133 by omega, show 14699 + (q.2.1 - 14699) = 14699 by omega]
  have hbm1 : ads1[83]? = some bm := by obtain ⟨x, rfl⟩ := hp1; rw [List.getElem?_append_left (List.getElem?_eq_some_iff.mp hbm).1]; exact hbm
  refine lv_aload_n hx hb dl_479 rfl h2 ?_
  refine lw_call (As := []) (rest := [.int (ev_i q.1.2.1)]) hcx lwk_480 dl_480 (fun M hM => ev_exec_ok en_all ev_MT_ok l 20 _ M hM _ _ _ _ _ hr) (by omega) qt hwo1 hS1 (has.mono hp1) hbm1 rfl hsz (Nat.le_of_ble_eq_true rfl) (by omega) (by omega) fun ads2 ws2 H2 locs2 v2 hp2 hwo2 hS2 hv2 => ?_
  have hv := ev_ret0 hv2 r0
  subst hv
  rw [show 133 + (r.2.2.1 - q.2.2.1) = 133 by omega, show 14699 + (r.2.1 - q.2.1) = 14699 by omega, ← qr]
  exact lv_icmp_eq (tgt := 1136) hx hb dl_483 (by decide) (fun _ => hend H2 locs2 hS2) (fun z => absurd rfl z)
theorem lwk_489 : ev_ok1 ev_MT R_law false none 489 (.invokevirtual 66) 3 77 0 0 9 [4164, 4167, 1001, 4165, 4166] = true := by decide +kernel
theorem lwk_493 : ev_ok1 ev_MT R_law false none 493 (.invokevirtual 69) 3 150 0 0 10 [8052, 8055, 1012, 8053, 8054] = true := by decide +kernel
theorem lw_f_readings (hcx : lw_cx p s m c b L xs D cA) (hL : L = 6) {ads : List Nat} {ws : va_W} {H : Heap} {locs : List Loc} {ls : Array Slot} {bx bm : Nat} (hwo : ev_wo D cA (fun q => s.heap.size ≤ q) ads ws 133 ev_h0 H) (hS : va_S (fun q => s.heap.size ≤ q) s.heap H locs) (h0 : ls[0]? = some (.val (.ref b))) (h1 : ls[1]? = some (.val (.ref bx))) (h2 : ls[2]? = some (.val (.ref bm))) (h3 : ls[3]? = some (.val (.int 0))) (hsz : ls.size = 4) (hbx : ads[0]? = some bx) (hbm : ads[83]? = some bm) (hend : ∀ (H1 : Heap) (locs1 : List Loc), va_S (fun q => s.heap.size ≤ q) s.heap H1 locs1 → W p l e room_1 s m #[Value.ref b] below meth c H1 locs1 133 14699 Q (F0 m 1136 ls [])) : W p l e room_1 s m #[Value.ref b] below meth c H locs 133 14699 Q (F0 m 488 ls []) := by
  obtain ⟨hx, hb, hml, hown, hts, hX, hbl, hK, hNw⟩ := id hcx
  refine lv_aload_n hx hb dl_488 rfl h1 ?_
  obtain ⟨as, has, htwo⟩ := rs_readings ads
  obtain ⟨q, r, hq, hr, q0, r0, qr, qn, qs, rn, rs, qt⟩ := ev_two_ok htwo
  refine lw_call (As := []) (rest := []) hcx lwk_489 dl_489 (fun M hM => ev_exec_ok en_all ev_MT_ok l 20 _ M hM _ _ _ _ _ hq) (by decide) hg_0 hwo hS has hbx rfl hsz (by decide) (by omega) (by omega) fun ads1 ws1 H1 locs1 v hp1 hwo1 hS1 hv1 => ?_
  have hv := ev_ret0 hv1 q0
  subst hv
  rw [show 133 + (q.2.2.1 - 133) = 133 by omega, show 14699 + (q.2.1 - 14699) = 14699 by omega]
  have hbm1 : ads1[83]? = some bm := by obtain ⟨x, rfl⟩ := hp1; rw [List.getElem?_append_left (List.getElem?_eq_some_iff.mp hbm).1]; exact hbm
  refine lv_aload_n hx hb dl_492 rfl h2 ?_
  refine lw_call (As := []) (rest := [.int (ev_i q.1.2.1)]) hcx lwk_493 dl_493 (fun M hM => ev_exec_ok en_all ev_MT_ok l 20 _ M hM _ _ _ _ _ hr) (by omega) qt hwo1 hS1 (has.mono hp1) hbm1 rfl hsz (Nat.le_of_ble_eq_true rfl) (by omega) (by omega) fun ads2 ws2 H2 locs2 v2 hp2 hwo2 hS2 hv2 => ?_
  have hv := ev_ret0 hv2 r0
  subst hv
  rw [show 133 + (r.2.2.1 - q.2.2.1) = 133 by omega, show 14699 + (r.2.1 - q.2.1) = 14699 by omega, ← qr]
  exact lv_icmp_eq (tgt := 1136) hx hb dl_496 (by decide) (fun _ => hend H2 locs2 hS2) (fun z => absurd rfl z)
theorem lwk_502 : ev_ok1 ev_MT R_law false none 502 (.invokevirtual 70) 3 78 0 0 9 [4168, 4171, 1001, 4169, 4170] = true := by decide +kernel
theorem lwk_506 : ev_ok1 ev_MT R_law false none 506 (.invokevirtual 73) 3 152 0 0 10 [8064, 8067, 1012, 8065, 8066] = true := by decide +kernel
theorem lw_f_taken (hcx : lw_cx p s m c b L xs D cA) (hL : L = 6) {ads : List Nat} {ws : va_W} {H : Heap} {locs : List Loc} {ls : Array Slot} {bx bm : Nat} (hwo : ev_wo D cA (fun q => s.heap.size ≤ q) ads ws 133 ev_h0 H) (hS : va_S (fun q => s.heap.size ≤ q) s.heap H locs) (h0 : ls[0]? = some (.val (.ref b))) (h1 : ls[1]? = some (.val (.ref bx))) (h2 : ls[2]? = some (.val (.ref bm))) (h3 : ls[3]? = some (.val (.int 0))) (hsz : ls.size = 4) (hbx : ads[0]? = some bx) (hbm : ads[83]? = some bm) (hend : ∀ (H1 : Heap) (locs1 : List Loc), va_S (fun q => s.heap.size ≤ q) s.heap H1 locs1 → W p l e room_1 s m #[Value.ref b] below meth c H1 locs1 133 14699 Q (F0 m 1136 ls [])) : W p l e room_1 s m #[Value.ref b] below meth c H locs 133 14699 Q (F0 m 501 ls []) := by
  obtain ⟨hx, hb, hml, hown, hts, hX, hbl, hK, hNw⟩ := id hcx
  refine lv_aload_n hx hb dl_501 rfl h1 ?_
  obtain ⟨as, has, htwo⟩ := rs_taken ads
  obtain ⟨q, r, hq, hr, q0, r0, qr, qn, qs, rn, rs, qt⟩ := ev_two_ok htwo
  refine lw_call (As := []) (rest := []) hcx lwk_502 dl_502 (fun M hM => ev_exec_ok en_all ev_MT_ok l 20 _ M hM _ _ _ _ _ hq) (by decide) hg_0 hwo hS has hbx rfl hsz (by decide) (by omega) (by omega) fun ads1 ws1 H1 locs1 v hp1 hwo1 hS1 hv1 => ?_
  have hv := ev_ret0 hv1 q0
  subst hv
  rw [show 133 + (q.2.2.1 - 133) = 133 by omega, show 14699 + (q.2.1 - 14699) = 14699 by omega]
  have hbm1 : ads1[83]? = some bm := by obtain ⟨x, rfl⟩ := hp1; rw [List.getElem?_append_left (List.getElem?_eq_some_iff.mp hbm).1]; exact hbm
  refine lv_aload_n hx hb dl_505 rfl h2 ?_
  refine lw_call (As := []) (rest := [.int (ev_i q.1.2.1)]) hcx lwk_506 dl_506 (fun M hM => ev_exec_ok en_all ev_MT_ok l 20 _ M hM _ _ _ _ _ hr) (by omega) qt hwo1 hS1 (has.mono hp1) hbm1 rfl hsz (Nat.le_of_ble_eq_true rfl) (by omega) (by omega) fun ads2 ws2 H2 locs2 v2 hp2 hwo2 hS2 hv2 => ?_
  have hv := ev_ret0 hv2 r0
  subst hv
  rw [show 133 + (r.2.2.1 - q.2.2.1) = 133 by omega, show 14699 + (r.2.1 - q.2.1) = 14699 by omega, ← qr]
  exact lv_icmp_eq (tgt := 1136) hx hb dl_509 (by decide) (fun _ => hend H2 locs2 hS2) (fun z => absurd rfl z)
theorem lwk_515 : ev_ok1 ev_MT R_law false none 515 (.invokevirtual 74) 3 79 0 0 9 [4176, 4179, 1001, 4177, 4178] = true := by decide +kernel
theorem lwk_519 : ev_ok1 ev_MT R_law false none 519 (.invokevirtual 77) 3 153 0 0 10 [8068, 8071, 1012, 8069, 8070] = true := by decide +kernel
theorem lw_f_weight (hcx : lw_cx p s m c b L xs D cA) (hL : L = 6) {ads : List Nat} {ws : va_W} {H : Heap} {locs : List Loc} {ls : Array Slot} {bx bm : Nat} (hwo : ev_wo D cA (fun q => s.heap.size ≤ q) ads ws 133 ev_h0 H) (hS : va_S (fun q => s.heap.size ≤ q) s.heap H locs) (h0 : ls[0]? = some (.val (.ref b))) (h1 : ls[1]? = some (.val (.ref bx))) (h2 : ls[2]? = some (.val (.ref bm))) (h3 : ls[3]? = some (.val (.int 0))) (hsz : ls.size = 4) (hbx : ads[0]? = some bx) (hbm : ads[83]? = some bm) (hend : ∀ (H1 : Heap) (locs1 : List Loc), va_S (fun q => s.heap.size ≤ q) s.heap H1 locs1 → W p l e room_1 s m #[Value.ref b] below meth c H1 locs1 133 14699 Q (F0 m 1136 ls [])) : W p l e room_1 s m #[Value.ref b] below meth c H locs 133 14699 Q (F0 m 514 ls []) := by
  obtain ⟨hx, hb, hml, hown, hts, hX, hbl, hK, hNw⟩ := id hcx
  refine lv_aload_n hx hb dl_514 rfl h1 ?_
  obtain ⟨as, has, htwo⟩ := rs_weight ads
  obtain ⟨q, r, hq, hr, q0, r0, qr, qn, qs, rn, rs, qt⟩ := ev_two_ok htwo
  refine lw_call (As := []) (rest := []) hcx lwk_515 dl_515 (fun M hM => ev_exec_ok en_all ev_MT_ok l 20 _ M hM _ _ _ _ _ hq) (by decide) hg_0 hwo hS has hbx rfl hsz (by decide) (by omega) (by omega) fun ads1 ws1 H1 locs1 v hp1 hwo1 hS1 hv1 => ?_
  have hv := ev_ret0 hv1 q0
  subst hv
  rw [show 133 + (q.2.2.1 - 133) = 133 by omega, show 14699 + (q.2.1 - 14699) = 14699 by omega]
  have hbm1 : ads1[83]? = some bm := by obtain ⟨x, rfl⟩ := hp1; rw [List.getElem?_append_left (List.getElem?_eq_some_iff.mp hbm).1]; exact hbm
  refine lv_aload_n hx hb dl_518 rfl h2 ?_
  refine lw_call (As := []) (rest := [.int (ev_i q.1.2.1)]) hcx lwk_519 dl_519 (fun M hM => ev_exec_ok en_all ev_MT_ok l 20 _ M hM _ _ _ _ _ hr) (by omega) qt hwo1 hS1 (has.mono hp1) hbm1 rfl hsz (Nat.le_of_ble_eq_true rfl) (by omega) (by omega) fun ads2 ws2 H2 locs2 v2 hp2 hwo2 hS2 hv2 => ?_
  have hv := ev_ret0 hv2 r0
  subst hv
  rw [show 133 + (r.2.2.1 - q.2.2.1) = 133 by omega, show 14699 + (r.2.1 - q.2.1) = 14699 by omega, ← qr]
  exact lv_icmp_eq (tgt := 1136) hx hb dl_522 (by decide) (fun _ => hend H2 locs2 hS2) (fun z => absurd rfl z)
theorem lwk_533 : ev_ok1 ev_MT R_law false none 533 (.invokevirtual 78) 3 80 1 0 9 [4184, 4187, 1001, 4185, 4186] = true := by decide +kernel
theorem lwk_542 : ev_ok1 ev_MT R_law false none 542 (.invokevirtual 81) 3 154 1 0 10 [8072, 8075, 1012, 8073, 8074] = true := by decide +kernel
theorem lw_f_does (hcx : lw_cx p s m c b L xs D cA) (hL : L = 6) {ads : List Nat} {ws : va_W} {H : Heap} {locs : List Loc} {ls : Array Slot} {bx bm : Nat} (hwo : ev_wo D cA (fun q => s.heap.size ≤ q) ads ws 133 ev_h0 H) (hS : va_S (fun q => s.heap.size ≤ q) s.heap H locs) (h0 : ls[0]? = some (.val (.ref b))) (h1 : ls[1]? = some (.val (.ref bx))) (h2 : ls[2]? = some (.val (.ref bm))) (h3 : ls[3]? = some (.val (.int 0))) (hsz : ls.size = 4) (hbx : ads[0]? = some bx) (hbm : ads[83]? = some bm) (hend : ∀ (H1 : Heap) (locs1 : List Loc), va_S (fun q => s.heap.size ≤ q) s.heap H1 locs1 → W p l e room_1 s m #[Value.ref b] below meth c H1 locs1 133 14699 Q (F0 m 1136 ls [])) : W p l e room_1 s m #[Value.ref b] below meth c H locs 133 14699 Q (F0 m 527 ls []) := by
  obtain ⟨hx, hb, hml, hown, hts, hX, hbl, hK, hNw⟩ := id hcx
  refine lv_aload_n hx hb dl_527 rfl h1 ?_
  refine lw_arg hcx hS h0 h3 (k := 1) (by omega) (by decide) dl_528 dl_529 dl_530 dl_531 dl_532 ?_
  obtain ⟨as, has, htwo⟩ := rs_does ads (xs 1)
  obtain ⟨q, r, hq, hr, q0, r0, qr, qn, qs, rn, rs, qt⟩ := ev_two_ok htwo
  refine lw_call (As := [.int (xs 1)]) (rest := []) hcx lwk_533 dl_533 (fun M hM => ev_exec_ok en_all ev_MT_ok l 20 _ M hM _ _ _ _ _ hq) (by decide) hg_0 hwo hS has hbx rfl hsz (by decide) (by omega) (by omega) fun ads1 ws1 H1 locs1 v hp1 hwo1 hS1 hv1 => ?_
  have hv := ev_ret0 hv1 q0
  subst hv
  rw [show 133 + (q.2.2.1 - 133) = 133 by omega, show 14699 + (q.2.1 - 14699) = 14699 by omega]
  have hbm1 : ads1[83]? = some bm := by obtain ⟨x, rfl⟩ := hp1; rw [List.getElem?_append_left (List.getElem?_eq_some_iff.mp hbm).1]; exact hbm
  refine lv_aload_n hx hb dl_536 rfl h2 ?_
  refine lw_arg hcx hS1 h0 h3 (k := 1) (by omega) (by decide) dl_537 dl_538 dl_539 dl_540 dl_541 ?_
  refine lw_call (As := [.int (xs 1)]) (rest := [.int (ev_i q.1.2.1)]) hcx lwk_542 dl_542 (fun M hM => ev_exec_ok en_all ev_MT_ok l 20 _ M hM _ _ _ _ _ hr) (by omega) qt hwo1 hS1 (has.mono hp1) hbm1 rfl hsz (Nat.le_of_ble_eq_true rfl) (by omega) (by omega) fun ads2 ws2 H2 locs2 v2 hp2 hwo2 hS2 hv2 => ?_
  have hv := ev_ret0 hv2 r0
  subst hv
  rw [show 133 + (r.2.2.1 - q.2.2.1) = 133 by omega, show 14699 + (r.2.1 - q.2.1) = 14699 by omega, ← qr]
  exact lv_icmp_eq (tgt := 1136) hx hb dl_545 (by decide) (fun _ => hend H2 locs2 hS2) (fun z => absurd rfl z)
theorem lwk_561 : ev_ok1 ev_MT R_law false none 561 (.invokevirtual 82) 3 81 2 0 9 [4192, 4195, 1001, 4193, 4194] = true := by decide +kernel
theorem lwk_575 : ev_ok1 ev_MT R_law false none 575 (.invokevirtual 85) 3 157 2 0 10 [8080, 8083, 1012, 8081, 8082] = true := by decide +kernel
theorem lw_f_will (hcx : lw_cx p s m c b L xs D cA) (hL : L = 6) {ads : List Nat} {ws : va_W} {H : Heap} {locs : List Loc} {ls : Array Slot} {bx bm : Nat} (hwo : ev_wo D cA (fun q => s.heap.size ≤ q) ads ws 133 ev_h0 H) (hS : va_S (fun q => s.heap.size ≤ q) s.heap H locs) (h0 : ls[0]? = some (.val (.ref b))) (h1 : ls[1]? = some (.val (.ref bx))) (h2 : ls[2]? = some (.val (.ref bm))) (h3 : ls[3]? = some (.val (.int 0))) (hsz : ls.size = 4) (hbx : ads[0]? = some bx) (hbm : ads[83]? = some bm) (hend : ∀ (H1 : Heap) (locs1 : List Loc), va_S (fun q => s.heap.size ≤ q) s.heap H1 locs1 → W p l e room_1 s m #[Value.ref b] below meth c H1 locs1 133 14699 Q (F0 m 1136 ls [])) : W p l e room_1 s m #[Value.ref b] below meth c H locs 133 14699 Q (F0 m 550 ls []) := by
  obtain ⟨hx, hb, hml, hown, hts, hX, hbl, hK, hNw⟩ := id hcx
  refine lv_aload_n hx hb dl_550 rfl h1 ?_
  refine lw_arg hcx hS h0 h3 (k := 1) (by omega) (by decide) dl_551 dl_552 dl_553 dl_554 dl_555 ?_
  refine lw_arg hcx hS h0 h3 (k := 2) (by omega) (by decide) dl_556 dl_557 dl_558 dl_559 dl_560 ?_
  obtain ⟨as, has, htwo⟩ := rs_will ads (xs 1) (xs 2)
  obtain ⟨q, r, hq, hr, q0, r0, qr, qn, qs, rn, rs, qt⟩ := ev_two_ok htwo
  refine lw_call (As := [.int (xs 1), .int (xs 2)]) (rest := []) hcx lwk_561 dl_561 (fun M hM => ev_exec_ok en_all ev_MT_ok l 20 _ M hM _ _ _ _ _ hq) (by decide) hg_0 hwo hS has hbx rfl hsz (by decide) (by omega) (by omega) fun ads1 ws1 H1 locs1 v hp1 hwo1 hS1 hv1 => ?_
  have hv := ev_ret0 hv1 q0
  subst hv
  rw [show 133 + (q.2.2.1 - 133) = 133 by omega, show 14699 + (q.2.1 - 14699) = 14699 by omega]
  have hbm1 : ads1[83]? = some bm := by obtain ⟨x, rfl⟩ := hp1; rw [List.getElem?_append_left (List.getElem?_eq_some_iff.mp hbm).1]; exact hbm
  refine lv_aload_n hx hb dl_564 rfl h2 ?_
  refine lw_arg hcx hS1 h0 h3 (k := 1) (by omega) (by decide) dl_565 dl_566 dl_567 dl_568 dl_569 ?_
  refine lw_arg hcx hS1 h0 h3 (k := 2) (by omega) (by decide) dl_570 dl_571 dl_572 dl_573 dl_574 ?_
  refine lw_call (As := [.int (xs 1), .int (xs 2)]) (rest := [.int (ev_i q.1.2.1)]) hcx lwk_575 dl_575 (fun M hM => ev_exec_ok en_all ev_MT_ok l 20 _ M hM _ _ _ _ _ hr) (by omega) qt hwo1 hS1 (has.mono hp1) hbm1 rfl hsz (Nat.le_of_ble_eq_true rfl) (by omega) (by omega) fun ads2 ws2 H2 locs2 v2 hp2 hwo2 hS2 hv2 => ?_
  have hv := ev_ret0 hv2 r0
  subst hv
  rw [show 133 + (r.2.2.1 - q.2.2.1) = 133 by omega, show 14699 + (r.2.1 - q.2.1) = 14699 by omega, ← qr]
  exact lv_icmp_eq (tgt := 1136) hx hb dl_578 (by decide) (fun _ => hend H2 locs2 hS2) (fun z => absurd rfl z)
theorem lwk_589 : ev_ok1 ev_MT R_law false none 589 (.invokevirtual 86) 3 82 1 0 9 [4204, 4207, 1001, 4205, 4206] = true := by decide +kernel
theorem lwk_598 : ev_ok1 ev_MT R_law false none 598 (.invokevirtual 89) 3 158 1 0 10 [8092, 8095, 1012, 8093, 8094] = true := by decide +kernel
theorem lw_f_field (hcx : lw_cx p s m c b L xs D cA) (hL : L = 6) {ads : List Nat} {ws : va_W} {H : Heap} {locs : List Loc} {ls : Array Slot} {bx bm : Nat} (hwo : ev_wo D cA (fun q => s.heap.size ≤ q) ads ws 133 ev_h0 H) (hS : va_S (fun q => s.heap.size ≤ q) s.heap H locs) (h0 : ls[0]? = some (.val (.ref b))) (h1 : ls[1]? = some (.val (.ref bx))) (h2 : ls[2]? = some (.val (.ref bm))) (h3 : ls[3]? = some (.val (.int 0))) (hsz : ls.size = 4) (hbx : ads[0]? = some bx) (hbm : ads[83]? = some bm) (hend : ∀ (H1 : Heap) (locs1 : List Loc), va_S (fun q => s.heap.size ≤ q) s.heap H1 locs1 → W p l e room_1 s m #[Value.ref b] below meth c H1 locs1 133 14699 Q (F0 m 1136 ls [])) : W p l e room_1 s m #[Value.ref b] below meth c H locs 133 14699 Q (F0 m 583 ls []) := by
  obtain ⟨hx, hb, hml, hown, hts, hX, hbl, hK, hNw⟩ := id hcx
  by_cases hr : 2147483648 ≤ ev_key (xs 1) ∧ ev_key (xs 1) ≤ 2147483708
  · have hn : ev_key (xs 1) - 2147483648 ≤ 60 := by omega
    have hmx := fi_met l hn
    obtain ⟨g, hmm⟩ := zf_met l hn
    have has : ev_relS ads [(0, ev_key (xs 1) - 2147483648, 0)] [.int (xs 1)] := ⟨ev_rel.key ads (by omega), trivial⟩
    generalize ev_ans (ev_key (xs 1) - 2147483648) = ans at hmx hmm
    refine lv_aload_n hx hb dl_583 rfl h1 ?_
    refine lw_arg hcx hS h0 h3 (k := 1) (by omega) (by decide) dl_584 dl_585 dl_586 dl_587 dl_588 ?_
    refine lw_callT (As := [.int (xs 1)]) (rest := []) hcx lwk_589 dl_589 (fun M hM => by rw [mt_fX M hM]; exact hmx) (by decide) hg_0 hwo hS has hbx rfl hsz (by decide) (by decide) (by decide) fun ads1 ws1 H1 locs1 v hp1 hwo1 hS1 hv1 => ?_
    have hv := ev_ret0 hv1 rfl
    subst hv
    have hbm1 : ads1[83]? = some bm := by obtain ⟨x, rfl⟩ := hp1; rw [List.getElem?_append_left (List.getElem?_eq_some_iff.mp hbm).1]; exact hbm
    refine lv_aload_n hx hb dl_592 rfl h2 ?_
    refine lw_arg hcx hS1 h0 h3 (k := 1) (by omega) (by decide) dl_593 dl_594 dl_595 dl_596 dl_597 ?_
    refine lw_callT (As := [.int (xs 1)]) (rest := [.int (ev_i ans)]) hcx lwk_598 dl_598 (fun M hM => by rw [mt_fM M hM]; exact hmm) (by decide) hgM_83 hwo1 hS1 (has.mono hp1) hbm1 rfl hsz (Nat.le_of_ble_eq_true rfl) (by decide) (by decide) fun ads2 ws2 H2 locs2 v2 hp2 hwo2 hS2 hv2 => ?_
    have hv := ev_ret0 hv2 rfl
    subst hv
    exact lv_icmp_eq (tgt := 1136) hx hb dl_601 (by decide) (fun _ => hend H2 locs2 hS2) (fun z => absurd rfl z)
  refine lv_aload_n hx hb dl_583 rfl h1 ?_
  refine lw_arg hcx hS h0 h3 (k := 1) (by omega) (by decide) dl_584 dl_585 dl_586 dl_587 dl_588 ?_
  obtain ⟨as, has, htwo⟩ := rs_field ads (xs 1) hr
  obtain ⟨q, r, hq, hr, q0, r0, qr, qn, qs, rn, rs, qt⟩ := ev_two_ok htwo
  refine lw_call (As := [.int (xs 1)]) (rest := []) hcx lwk_589 dl_589 (fun M hM => ev_exec_ok en_all ev_MT_ok l 20 _ M hM _ _ _ _ _ hq) (by decide) hg_0 hwo hS has hbx rfl hsz (by decide) (by omega) (by omega) fun ads1 ws1 H1 locs1 v hp1 hwo1 hS1 hv1 => ?_
  have hv := ev_ret0 hv1 q0
  subst hv
  rw [show 133 + (q.2.2.1 - 133) = 133 by omega, show 14699 + (q.2.1 - 14699) = 14699 by omega]
  have hbm1 : ads1[83]? = some bm := by obtain ⟨x, rfl⟩ := hp1; rw [List.getElem?_append_left (List.getElem?_eq_some_iff.mp hbm).1]; exact hbm
  refine lv_aload_n hx hb dl_592 rfl h2 ?_
  refine lw_arg hcx hS1 h0 h3 (k := 1) (by omega) (by decide) dl_593 dl_594 dl_595 dl_596 dl_597 ?_
  refine lw_call (As := [.int (xs 1)]) (rest := [.int (ev_i q.1.2.1)]) hcx lwk_598 dl_598 (fun M hM => ev_exec_ok en_all ev_MT_ok l 20 _ M hM _ _ _ _ _ hr) (by omega) qt hwo1 hS1 (has.mono hp1) hbm1 rfl hsz (Nat.le_of_ble_eq_true rfl) (by omega) (by omega) fun ads2 ws2 H2 locs2 v2 hp2 hwo2 hS2 hv2 => ?_
  have hv := ev_ret0 hv2 r0
  subst hv
  rw [show 133 + (r.2.2.1 - q.2.2.1) = 133 by omega, show 14699 + (r.2.1 - q.2.1) = 14699 by omega, ← qr]
  exact lv_icmp_eq (tgt := 1136) hx hb dl_601 (by decide) (fun _ => hend H2 locs2 hS2) (fun z => absurd rfl z)
theorem lwk_607 : ev_ok1 ev_MT R_law false none 607 (.invokevirtual 90) 3 83 0 0 9 [4208, 4211, 1001, 4209, 4210] = true := by decide +kernel
theorem lwk_611 : ev_ok1 ev_MT R_law false none 611 (.invokevirtual 93) 3 159 0 0 10 [8096, 8099, 1012, 8097, 8098] = true := by decide +kernel
theorem lw_f_harm (hcx : lw_cx p s m c b L xs D cA) (hL : L = 6) {ads : List Nat} {ws : va_W} {H : Heap} {locs : List Loc} {ls : Array Slot} {bx bm : Nat} (hwo : ev_wo D cA (fun q => s.heap.size ≤ q) ads ws 133 ev_h0 H) (hS : va_S (fun q => s.heap.size ≤ q) s.heap H locs) (h0 : ls[0]? = some (.val (.ref b))) (h1 : ls[1]? = some (.val (.ref bx))) (h2 : ls[2]? = some (.val (.ref bm))) (h3 : ls[3]? = some (.val (.int 0))) (hsz : ls.size = 4) (hbx : ads[0]? = some bx) (hbm : ads[83]? = some bm) (hend : ∀ (H1 : Heap) (locs1 : List Loc), va_S (fun q => s.heap.size ≤ q) s.heap H1 locs1 → W p l e room_1 s m #[Value.ref b] below meth c H1 locs1 133 14699 Q (F0 m 1136 ls [])) : W p l e room_1 s m #[Value.ref b] below meth c H locs 133 14699 Q (F0 m 606 ls []) := by
  obtain ⟨hx, hb, hml, hown, hts, hX, hbl, hK, hNw⟩ := id hcx
  refine lv_aload_n hx hb dl_606 rfl h1 ?_
  obtain ⟨as, has, htwo⟩ := rs_harm ads
  obtain ⟨q, r, hq, hr, q0, r0, qr, qn, qs, rn, rs, qt⟩ := ev_two_ok htwo
  refine lw_call (As := []) (rest := []) hcx lwk_607 dl_607 (fun M hM => ev_exec_ok en_all ev_MT_ok l 20 _ M hM _ _ _ _ _ hq) (by decide) hg_0 hwo hS has hbx rfl hsz (by decide) (by omega) (by omega) fun ads1 ws1 H1 locs1 v hp1 hwo1 hS1 hv1 => ?_
  have hv := ev_ret0 hv1 q0
  subst hv
  rw [show 133 + (q.2.2.1 - 133) = 133 by omega, show 14699 + (q.2.1 - 14699) = 14699 by omega]
  have hbm1 : ads1[83]? = some bm := by obtain ⟨x, rfl⟩ := hp1; rw [List.getElem?_append_left (List.getElem?_eq_some_iff.mp hbm).1]; exact hbm
  refine lv_aload_n hx hb dl_610 rfl h2 ?_
  refine lw_call (As := []) (rest := [.int (ev_i q.1.2.1)]) hcx lwk_611 dl_611 (fun M hM => ev_exec_ok en_all ev_MT_ok l 20 _ M hM _ _ _ _ _ hr) (by omega) qt hwo1 hS1 (has.mono hp1) hbm1 rfl hsz (Nat.le_of_ble_eq_true rfl) (by omega) (by omega) fun ads2 ws2 H2 locs2 v2 hp2 hwo2 hS2 hv2 => ?_
  have hv := ev_ret0 hv2 r0
  subst hv
  rw [show 133 + (r.2.2.1 - q.2.2.1) = 133 by omega, show 14699 + (r.2.1 - q.2.1) = 14699 by omega, ← qr]
  exact lv_icmp_eq (tgt := 1136) hx hb dl_614 (by decide) (fun _ => hend H2 locs2 hS2) (fun z => absurd rfl z)
theorem lwk_630 : ev_ok1 ev_MT R_law false none 630 (.invokevirtual 94) 3 84 2 0 9 [4216, 4219, 1001, 4217, 4218] = true := by decide +kernel
theorem lwk_644 : ev_ok1 ev_MT R_law false none 644 (.invokevirtual 97) 3 162 2 0 10 [8104, 8107, 1012, 8105, 8106] = true := by decide +kernel
theorem lw_f_turn (hcx : lw_cx p s m c b L xs D cA) (hL : L = 6) {ads : List Nat} {ws : va_W} {H : Heap} {locs : List Loc} {ls : Array Slot} {bx bm : Nat} (hwo : ev_wo D cA (fun q => s.heap.size ≤ q) ads ws 133 ev_h0 H) (hS : va_S (fun q => s.heap.size ≤ q) s.heap H locs) (h0 : ls[0]? = some (.val (.ref b))) (h1 : ls[1]? = some (.val (.ref bx))) (h2 : ls[2]? = some (.val (.ref bm))) (h3 : ls[3]? = some (.val (.int 0))) (hsz : ls.size = 4) (hbx : ads[0]? = some bx) (hbm : ads[83]? = some bm) (hend : ∀ (H1 : Heap) (locs1 : List Loc), va_S (fun q => s.heap.size ≤ q) s.heap H1 locs1 → W p l e room_1 s m #[Value.ref b] below meth c H1 locs1 133 14699 Q (F0 m 1136 ls [])) : W p l e room_1 s m #[Value.ref b] below meth c H locs 133 14699 Q (F0 m 619 ls []) := by
  obtain ⟨hx, hb, hml, hown, hts, hX, hbl, hK, hNw⟩ := id hcx
  refine lv_aload_n hx hb dl_619 rfl h1 ?_
  refine lw_arg hcx hS h0 h3 (k := 1) (by omega) (by decide) dl_620 dl_621 dl_622 dl_623 dl_624 ?_
  refine lw_arg hcx hS h0 h3 (k := 2) (by omega) (by decide) dl_625 dl_626 dl_627 dl_628 dl_629 ?_
  obtain ⟨as, has, htwo⟩ := rs_turn ads (xs 1) (xs 2)
  obtain ⟨q, r, hq, hr, q0, r0, qr, qn, qs, rn, rs, qt⟩ := ev_two_ok htwo
  refine lw_call (As := [.int (xs 1), .int (xs 2)]) (rest := []) hcx lwk_630 dl_630 (fun M hM => ev_exec_ok en_all ev_MT_ok l 20 _ M hM _ _ _ _ _ hq) (by decide) hg_0 hwo hS has hbx rfl hsz (by decide) (by omega) (by omega) fun ads1 ws1 H1 locs1 v hp1 hwo1 hS1 hv1 => ?_
  have hv := ev_ret0 hv1 q0
  subst hv
  rw [show 133 + (q.2.2.1 - 133) = 133 by omega, show 14699 + (q.2.1 - 14699) = 14699 by omega]
  have hbm1 : ads1[83]? = some bm := by obtain ⟨x, rfl⟩ := hp1; rw [List.getElem?_append_left (List.getElem?_eq_some_iff.mp hbm).1]; exact hbm
  refine lv_aload_n hx hb dl_633 rfl h2 ?_
  refine lw_arg hcx hS1 h0 h3 (k := 1) (by omega) (by decide) dl_634 dl_635 dl_636 dl_637 dl_638 ?_
  refine lw_arg hcx hS1 h0 h3 (k := 2) (by omega) (by decide) dl_639 dl_640 dl_641 dl_642 dl_643 ?_
  refine lw_call (As := [.int (xs 1), .int (xs 2)]) (rest := [.int (ev_i q.1.2.1)]) hcx lwk_644 dl_644 (fun M hM => ev_exec_ok en_all ev_MT_ok l 20 _ M hM _ _ _ _ _ hr) (by omega) qt hwo1 hS1 (has.mono hp1) hbm1 rfl hsz (Nat.le_of_ble_eq_true rfl) (by omega) (by omega) fun ads2 ws2 H2 locs2 v2 hp2 hwo2 hS2 hv2 => ?_
  have hv := ev_ret0 hv2 r0
  subst hv
  rw [show 133 + (r.2.2.1 - q.2.2.1) = 133 by omega, show 14699 + (r.2.1 - q.2.1) = 14699 by omega, ← qr]
  exact lv_icmp_eq (tgt := 1136) hx hb dl_647 (by decide) (fun _ => hend H2 locs2 hS2) (fun z => absurd rfl z)
theorem lwk_653 : ev_ok1 ev_MT R_law false none 653 (.invokevirtual 98) 3 85 0 0 9 [5010, 5013, 1001, 5011, 5012] = true := by decide +kernel
theorem lwk_657 : ev_ok1 ev_MT R_law false none 657 (.invokevirtual 101) 3 163 0 0 10 [8116, 8119, 1012, 8117, 8118] = true := by decide +kernel
theorem lw_f_plain (hcx : lw_cx p s m c b L xs D cA) (hL : L = 6) {ads : List Nat} {ws : va_W} {H : Heap} {locs : List Loc} {ls : Array Slot} {bx bm : Nat} (hwo : ev_wo D cA (fun q => s.heap.size ≤ q) ads ws 133 ev_h0 H) (hS : va_S (fun q => s.heap.size ≤ q) s.heap H locs) (h0 : ls[0]? = some (.val (.ref b))) (h1 : ls[1]? = some (.val (.ref bx))) (h2 : ls[2]? = some (.val (.ref bm))) (h3 : ls[3]? = some (.val (.int 0))) (hsz : ls.size = 4) (hbx : ads[0]? = some bx) (hbm : ads[83]? = some bm) (hend : ∀ (H1 : Heap) (locs1 : List Loc), va_S (fun q => s.heap.size ≤ q) s.heap H1 locs1 → W p l e room_1 s m #[Value.ref b] below meth c H1 locs1 133 14699 Q (F0 m 1136 ls [])) : W p l e room_1 s m #[Value.ref b] below meth c H locs 133 14699 Q (F0 m 652 ls []) := by
  obtain ⟨hx, hb, hml, hown, hts, hX, hbl, hK, hNw⟩ := id hcx
  refine lv_aload_n hx hb dl_652 rfl h1 ?_
  obtain ⟨as, has, htwo⟩ := rs_plain ads
  obtain ⟨q, r, hq, hr, q0, r0, qr, qn, qs, rn, rs, qt⟩ := ev_two_ok htwo
  refine lw_call (As := []) (rest := []) hcx lwk_653 dl_653 (fun M hM => ev_exec_ok en_all ev_MT_ok l 20 _ M hM _ _ _ _ _ hq) (by decide) hg_0 hwo hS has hbx rfl hsz (by decide) (by omega) (by omega) fun ads1 ws1 H1 locs1 v hp1 hwo1 hS1 hv1 => ?_
  have hv := ev_ret0 hv1 q0
  subst hv
  rw [show 133 + (q.2.2.1 - 133) = 133 by omega, show 14699 + (q.2.1 - 14699) = 14699 by omega]
  have hbm1 : ads1[83]? = some bm := by obtain ⟨x, rfl⟩ := hp1; rw [List.getElem?_append_left (List.getElem?_eq_some_iff.mp hbm).1]; exact hbm
  refine lv_aload_n hx hb dl_656 rfl h2 ?_
  refine lw_call (As := []) (rest := [.int (ev_i q.1.2.1)]) hcx lwk_657 dl_657 (fun M hM => ev_exec_ok en_all ev_MT_ok l 20 _ M hM _ _ _ _ _ hr) (by omega) qt hwo1 hS1 (has.mono hp1) hbm1 rfl hsz (Nat.le_of_ble_eq_true rfl) (by omega) (by omega) fun ads2 ws2 H2 locs2 v2 hp2 hwo2 hS2 hv2 => ?_
  have hv := ev_ret0 hv2 r0
  subst hv
  rw [show 133 + (r.2.2.1 - q.2.2.1) = 133 by omega, show 14699 + (r.2.1 - q.2.1) = 14699 by omega, ← qr]
  exact lv_icmp_eq (tgt := 1136) hx hb dl_660 (by decide) (fun _ => hend H2 locs2 hS2) (fun z => absurd rfl z)
theorem lwk_671 : ev_ok1 ev_MT R_law false none 671 (.invokevirtual 102) 3 86 1 0 9 [5018, 5021, 1001, 5019, 5020] = true := by decide +kernel
theorem lwk_680 : ev_ok1 ev_MT R_law false none 680 (.invokevirtual 105) 3 164 1 0 10 [8120, 8123, 1012, 8121, 8122] = true := by decide +kernel
theorem lw_f_orders (hcx : lw_cx p s m c b L xs D cA) (hL : L = 6) {ads : List Nat} {ws : va_W} {H : Heap} {locs : List Loc} {ls : Array Slot} {bx bm : Nat} (hwo : ev_wo D cA (fun q => s.heap.size ≤ q) ads ws 133 ev_h0 H) (hS : va_S (fun q => s.heap.size ≤ q) s.heap H locs) (h0 : ls[0]? = some (.val (.ref b))) (h1 : ls[1]? = some (.val (.ref bx))) (h2 : ls[2]? = some (.val (.ref bm))) (h3 : ls[3]? = some (.val (.int 0))) (hsz : ls.size = 4) (hbx : ads[0]? = some bx) (hbm : ads[83]? = some bm) (hend : ∀ (H1 : Heap) (locs1 : List Loc), va_S (fun q => s.heap.size ≤ q) s.heap H1 locs1 → W p l e room_1 s m #[Value.ref b] below meth c H1 locs1 133 14699 Q (F0 m 1136 ls [])) : W p l e room_1 s m #[Value.ref b] below meth c H locs 133 14699 Q (F0 m 665 ls []) := by
  obtain ⟨hx, hb, hml, hown, hts, hX, hbl, hK, hNw⟩ := id hcx
  have hu : ev_u (xs 1) < 4294967296 := (xs 1).toUInt32.toNat_lt
  have hmx := or_met l hu
  obtain ⟨g, hmm⟩ := mr_met l hu
  have has : ev_relS ads [(0, ev_u (xs 1), 0)] [.int (xs 1)] := ⟨ev_rel.ex ads (xs 1) 0, trivial⟩
  generalize ev_oa (ev_u (xs 1)) = ans at hmx hmm
  refine lv_aload_n hx hb dl_665 rfl h1 ?_
  refine lw_arg hcx hS h0 h3 (k := 1) (by omega) (by decide) dl_666 dl_667 dl_668 dl_669 dl_670 ?_
  refine lw_callT (As := [.int (xs 1)]) (rest := []) hcx lwk_671 dl_671 (fun M hM => by rw [mt_oX M hM]; exact hmx) (by decide) hg_0 hwo hS has hbx rfl hsz (by decide) (by decide) (by decide) fun ads1 ws1 H1 locs1 v hp1 hwo1 hS1 hv1 => ?_
  have hv := ev_ret0 hv1 rfl
  subst hv
  have hbm1 : ads1[83]? = some bm := by obtain ⟨x, rfl⟩ := hp1; rw [List.getElem?_append_left (List.getElem?_eq_some_iff.mp hbm).1]; exact hbm
  refine lv_aload_n hx hb dl_674 rfl h2 ?_
  refine lw_arg hcx hS1 h0 h3 (k := 1) (by omega) (by decide) dl_675 dl_676 dl_677 dl_678 dl_679 ?_
  refine lw_callT (As := [.int (xs 1)]) (rest := [.int (ev_i ans)]) hcx lwk_680 dl_680 (fun M hM => by rw [mt_oM M hM]; exact hmm) (by decide) hgM_83 hwo1 hS1 (has.mono hp1) hbm1 rfl hsz (Nat.le_of_ble_eq_true rfl) (by decide) (by decide) fun ads2 ws2 H2 locs2 v2 hp2 hwo2 hS2 hv2 => ?_
  have hv := ev_ret0 hv2 rfl
  subst hv
  exact lv_icmp_eq (tgt := 1136) hx hb dl_683 (by decide) (fun _ => hend H2 locs2 hS2) (fun z => absurd rfl z)
theorem lwk_704 : ev_ok1 ev_MT R_law false none 704 (.invokevirtual 106) 3 87 3 0 9 [5055, 5058, 1001, 5056, 5057] = true := by decide +kernel
theorem lwk_723 : ev_ok1 ev_MT R_law false none 723 (.invokevirtual 110) 3 167 3 0 10 [8136, 8139, 1012, 8137, 8138] = true := by decide +kernel
theorem lw_f_write (hcx : lw_cx p s m c b L xs D cA) (hL : L = 6) {ads : List Nat} {ws : va_W} {H : Heap} {locs : List Loc} {ls : Array Slot} {bx bm : Nat} (hwo : ev_wo D cA (fun q => s.heap.size ≤ q) ads ws 133 ev_h0 H) (hS : va_S (fun q => s.heap.size ≤ q) s.heap H locs) (h0 : ls[0]? = some (.val (.ref b))) (h1 : ls[1]? = some (.val (.ref bx))) (h2 : ls[2]? = some (.val (.ref bm))) (h3 : ls[3]? = some (.val (.int 0))) (hsz : ls.size = 4) (hbx : ads[0]? = some bx) (hbm : ads[83]? = some bm) (hend : ∀ (H1 : Heap) (locs1 : List Loc), va_S (fun q => s.heap.size ≤ q) s.heap H1 locs1 → W p l e room_1 s m #[Value.ref b] below meth c H1 locs1 133 14699 Q (F0 m 1136 ls [])) : W p l e room_1 s m #[Value.ref b] below meth c H locs 133 14699 Q (F0 m 688 ls []) := by
  obtain ⟨hx, hb, hml, hown, hts, hX, hbl, hK, hNw⟩ := id hcx
  refine lv_aload_n hx hb dl_688 rfl h1 ?_
  refine lw_arg hcx hS h0 h3 (k := 1) (by omega) (by decide) dl_689 dl_690 dl_691 dl_692 dl_693 ?_
  refine lw_arg hcx hS h0 h3 (k := 2) (by omega) (by decide) dl_694 dl_695 dl_696 dl_697 dl_698 ?_
  refine lw_arg hcx hS h0 h3 (k := 3) (by omega) (by decide) dl_699 dl_700 dl_701 dl_702 dl_703 ?_
  obtain ⟨as, has, htwo⟩ := rs_write ads (xs 1) (xs 2) (xs 3)
  obtain ⟨q, r, hq, hr, q0, r0, qr, qn, qs, rn, rs, qt⟩ := ev_two_ok htwo
  refine lw_call (As := [.int (xs 1), .int (xs 2), .int (xs 3)]) (rest := []) hcx lwk_704 dl_704 (fun M hM => ev_exec_ok en_all ev_MT_ok l 20 _ M hM _ _ _ _ _ hq) (by decide) hg_0 hwo hS has hbx rfl hsz (by decide) (by omega) (by omega) fun ads1 ws1 H1 locs1 v hp1 hwo1 hS1 hv1 => ?_
  have hv := ev_ret0 hv1 q0
  subst hv
  rw [show 133 + (q.2.2.1 - 133) = 133 by omega, show 14699 + (q.2.1 - 14699) = 14699 by omega]
  have hbm1 : ads1[83]? = some bm := by obtain ⟨x, rfl⟩ := hp1; rw [List.getElem?_append_left (List.getElem?_eq_some_iff.mp hbm).1]; exact hbm
  refine lv_aload_n hx hb dl_707 rfl h2 ?_
  refine lw_arg hcx hS1 h0 h3 (k := 1) (by omega) (by decide) dl_708 dl_709 dl_710 dl_711 dl_712 ?_
  refine lw_arg hcx hS1 h0 h3 (k := 2) (by omega) (by decide) dl_713 dl_714 dl_715 dl_716 dl_717 ?_
  refine lw_arg hcx hS1 h0 h3 (k := 3) (by omega) (by decide) dl_718 dl_719 dl_720 dl_721 dl_722 ?_
  refine lw_call (As := [.int (xs 1), .int (xs 2), .int (xs 3)]) (rest := [.int (ev_i q.1.2.1)]) hcx lwk_723 dl_723 (fun M hM => ev_exec_ok en_all ev_MT_ok l 20 _ M hM _ _ _ _ _ hr) (by omega) qt hwo1 hS1 (has.mono hp1) hbm1 rfl hsz (Nat.le_of_ble_eq_true rfl) (by omega) (by omega) fun ads2 ws2 H2 locs2 v2 hp2 hwo2 hS2 hv2 => ?_
  have hv := ev_ret0 hv2 r0
  subst hv
  rw [show 133 + (r.2.2.1 - q.2.2.1) = 133 by omega, show 14699 + (r.2.1 - q.2.1) = 14699 by omega, ← qr]
  exact lv_icmp_eq (tgt := 1136) hx hb dl_726 (by decide) (fun _ => hend H2 locs2 hS2) (fun z => absurd rfl z)
theorem lwk_732 : ev_ok1 ev_MT R_law false none 732 (.invokevirtual 111) 3 88 0 0 9 [5072, 5075, 1001, 5073, 5074] = true := by decide +kernel
theorem lwk_736 : ev_ok1 ev_MT R_law false none 736 (.invokevirtual 114) 3 168 0 0 10 [8152, 8155, 1012, 8153, 8154] = true := by decide +kernel
theorem lw_f_watch (hcx : lw_cx p s m c b L xs D cA) (hL : L = 6) {ads : List Nat} {ws : va_W} {H : Heap} {locs : List Loc} {ls : Array Slot} {bx bm : Nat} (hwo : ev_wo D cA (fun q => s.heap.size ≤ q) ads ws 133 ev_h0 H) (hS : va_S (fun q => s.heap.size ≤ q) s.heap H locs) (h0 : ls[0]? = some (.val (.ref b))) (h1 : ls[1]? = some (.val (.ref bx))) (h2 : ls[2]? = some (.val (.ref bm))) (h3 : ls[3]? = some (.val (.int 0))) (hsz : ls.size = 4) (hbx : ads[0]? = some bx) (hbm : ads[83]? = some bm) (hend : ∀ (H1 : Heap) (locs1 : List Loc), va_S (fun q => s.heap.size ≤ q) s.heap H1 locs1 → W p l e room_1 s m #[Value.ref b] below meth c H1 locs1 133 14699 Q (F0 m 1136 ls [])) : W p l e room_1 s m #[Value.ref b] below meth c H locs 133 14699 Q (F0 m 731 ls []) := by
  obtain ⟨hx, hb, hml, hown, hts, hX, hbl, hK, hNw⟩ := id hcx
  refine lv_aload_n hx hb dl_731 rfl h1 ?_
  obtain ⟨as, has, htwo⟩ := rs_watch ads
  obtain ⟨q, r, hq, hr, q0, r0, qr, qn, qs, rn, rs, qt⟩ := ev_two_ok htwo
  refine lw_call (As := []) (rest := []) hcx lwk_732 dl_732 (fun M hM => ev_exec_ok en_all ev_MT_ok l 20 _ M hM _ _ _ _ _ hq) (by decide) hg_0 hwo hS has hbx rfl hsz (by decide) (by omega) (by omega) fun ads1 ws1 H1 locs1 v hp1 hwo1 hS1 hv1 => ?_
  have hv := ev_ret0 hv1 q0
  subst hv
  rw [show 133 + (q.2.2.1 - 133) = 133 by omega, show 14699 + (q.2.1 - 14699) = 14699 by omega]
  have hbm1 : ads1[83]? = some bm := by obtain ⟨x, rfl⟩ := hp1; rw [List.getElem?_append_left (List.getElem?_eq_some_iff.mp hbm).1]; exact hbm
  refine lv_aload_n hx hb dl_735 rfl h2 ?_
  refine lw_call (As := []) (rest := [.int (ev_i q.1.2.1)]) hcx lwk_736 dl_736 (fun M hM => ev_exec_ok en_all ev_MT_ok l 20 _ M hM _ _ _ _ _ hr) (by omega) qt hwo1 hS1 (has.mono hp1) hbm1 rfl hsz (Nat.le_of_ble_eq_true rfl) (by omega) (by omega) fun ads2 ws2 H2 locs2 v2 hp2 hwo2 hS2 hv2 => ?_
  have hv := ev_ret0 hv2 r0
  subst hv
  rw [show 133 + (r.2.2.1 - q.2.2.1) = 133 by omega, show 14699 + (r.2.1 - q.2.1) = 14699 by omega, ← qr]
  exact lv_icmp_eq (tgt := 1136) hx hb dl_739 (by decide) (fun _ => hend H2 locs2 hS2) (fun z => absurd rfl z)
theorem lwk_755 : ev_ok1 ev_MT R_law false none 755 (.invokevirtual 115) 3 89 2 0 9 [5080, 5083, 1001, 5081, 5082] = true := by decide +kernel
theorem lwk_769 : ev_ok1 ev_MT R_law false none 769 (.invokevirtual 118) 3 169 2 0 10 [8156, 8159, 1012, 8157, 8158] = true := by decide +kernel
theorem lw_f_cows (hcx : lw_cx p s m c b L xs D cA) (hL : L = 6) {ads : List Nat} {ws : va_W} {H : Heap} {locs : List Loc} {ls : Array Slot} {bx bm : Nat} (hwo : ev_wo D cA (fun q => s.heap.size ≤ q) ads ws 133 ev_h0 H) (hS : va_S (fun q => s.heap.size ≤ q) s.heap H locs) (h0 : ls[0]? = some (.val (.ref b))) (h1 : ls[1]? = some (.val (.ref bx))) (h2 : ls[2]? = some (.val (.ref bm))) (h3 : ls[3]? = some (.val (.int 0))) (hsz : ls.size = 4) (hbx : ads[0]? = some bx) (hbm : ads[83]? = some bm) (hend : ∀ (H1 : Heap) (locs1 : List Loc), va_S (fun q => s.heap.size ≤ q) s.heap H1 locs1 → W p l e room_1 s m #[Value.ref b] below meth c H1 locs1 133 14699 Q (F0 m 1136 ls [])) : W p l e room_1 s m #[Value.ref b] below meth c H locs 133 14699 Q (F0 m 744 ls []) := by
  obtain ⟨hx, hb, hml, hown, hts, hX, hbl, hK, hNw⟩ := id hcx
  refine lv_aload_n hx hb dl_744 rfl h1 ?_
  refine lw_arg hcx hS h0 h3 (k := 1) (by omega) (by decide) dl_745 dl_746 dl_747 dl_748 dl_749 ?_
  refine lw_arg hcx hS h0 h3 (k := 2) (by omega) (by decide) dl_750 dl_751 dl_752 dl_753 dl_754 ?_
  obtain ⟨as, has, htwo⟩ := rs_cows ads (xs 1) (xs 2)
  obtain ⟨q, r, hq, hr, q0, r0, qr, qn, qs, rn, rs, qt⟩ := ev_two_ok htwo
  refine lw_call (As := [.int (xs 1), .int (xs 2)]) (rest := []) hcx lwk_755 dl_755 (fun M hM => ev_exec_ok en_all ev_MT_ok l 20 _ M hM _ _ _ _ _ hq) (by decide) hg_0 hwo hS has hbx rfl hsz (by decide) (by omega) (by omega) fun ads1 ws1 H1 locs1 v hp1 hwo1 hS1 hv1 => ?_
  have hv := ev_ret0 hv1 q0
  subst hv
  rw [show 133 + (q.2.2.1 - 133) = 133 by omega, show 14699 + (q.2.1 - 14699) = 14699 by omega]
  have hbm1 : ads1[83]? = some bm := by obtain ⟨x, rfl⟩ := hp1; rw [List.getElem?_append_left (List.getElem?_eq_some_iff.mp hbm).1]; exact hbm
  refine lv_aload_n hx hb dl_758 rfl h2 ?_
  refine lw_arg hcx hS1 h0 h3 (k := 1) (by omega) (by decide) dl_759 dl_760 dl_761 dl_762 dl_763 ?_
  refine lw_arg hcx hS1 h0 h3 (k := 2) (by omega) (by decide) dl_764 dl_765 dl_766 dl_767 dl_768 ?_
  refine lw_call (As := [.int (xs 1), .int (xs 2)]) (rest := [.int (ev_i q.1.2.1)]) hcx lwk_769 dl_769 (fun M hM => ev_exec_ok en_all ev_MT_ok l 20 _ M hM _ _ _ _ _ hr) (by omega) qt hwo1 hS1 (has.mono hp1) hbm1 rfl hsz (Nat.le_of_ble_eq_true rfl) (by omega) (by omega) fun ads2 ws2 H2 locs2 v2 hp2 hwo2 hS2 hv2 => ?_
  have hv := ev_ret0 hv2 r0
  subst hv
  rw [show 133 + (r.2.2.1 - q.2.2.1) = 133 by omega, show 14699 + (r.2.1 - q.2.1) = 14699 by omega, ← qr]
  exact lv_icmp_eq (tgt := 1136) hx hb dl_772 (by decide) (fun _ => hend H2 locs2 hS2) (fun z => absurd rfl z)
theorem lwk_798 : ev_ok1 ev_MT R_law false none 798 (.invokevirtual 119) 3 90 4 0 9 [5092, 5095, 1001, 5093, 5094] = true := by decide +kernel
theorem lwk_822 : ev_ok1 ev_MT R_law false none 822 (.invokevirtual 123) 3 170 4 0 10 [8160, 8163, 1012, 8161, 8162] = true := by decide +kernel
theorem lw_f_duel (hcx : lw_cx p s m c b L xs D cA) (hL : L = 6) {ads : List Nat} {ws : va_W} {H : Heap} {locs : List Loc} {ls : Array Slot} {bx bm : Nat} (hwo : ev_wo D cA (fun q => s.heap.size ≤ q) ads ws 133 ev_h0 H) (hS : va_S (fun q => s.heap.size ≤ q) s.heap H locs) (h0 : ls[0]? = some (.val (.ref b))) (h1 : ls[1]? = some (.val (.ref bx))) (h2 : ls[2]? = some (.val (.ref bm))) (h3 : ls[3]? = some (.val (.int 0))) (hsz : ls.size = 4) (hbx : ads[0]? = some bx) (hbm : ads[83]? = some bm) (hend : ∀ (H1 : Heap) (locs1 : List Loc), va_S (fun q => s.heap.size ≤ q) s.heap H1 locs1 → W p l e room_1 s m #[Value.ref b] below meth c H1 locs1 133 14699 Q (F0 m 1136 ls [])) : W p l e room_1 s m #[Value.ref b] below meth c H locs 133 14699 Q (F0 m 777 ls []) := by
  obtain ⟨hx, hb, hml, hown, hts, hX, hbl, hK, hNw⟩ := id hcx
  refine lv_aload_n hx hb dl_777 rfl h1 ?_
  refine lw_arg hcx hS h0 h3 (k := 1) (by omega) (by decide) dl_778 dl_779 dl_780 dl_781 dl_782 ?_
  refine lw_arg hcx hS h0 h3 (k := 2) (by omega) (by decide) dl_783 dl_784 dl_785 dl_786 dl_787 ?_
  refine lw_arg hcx hS h0 h3 (k := 3) (by omega) (by decide) dl_788 dl_789 dl_790 dl_791 dl_792 ?_
  refine lw_arg hcx hS h0 h3 (k := 4) (by omega) (by decide) dl_793 dl_794 dl_795 dl_796 dl_797 ?_
  have htop : ∀ x : Int32, ev_rel ads (1, 0, 4294967295) (.int x) := ev_rel.top ads
  have key : ∃ tv : ev_V, ev_rel ads tv (.int (xs 1)) ∧ ev_Met l ev_MD 20 [(2, 0, 0), tv, (1, 0, 4294967295), (1, 0, 4294967295), (1, 0, 4294967295)] 14699 133 ev_h0 ((0, 4294957296, 0), 14699, 133, ev_h0) ∧ ev_exec ev_XT 2000 20 170 [(2, 83, 0), tv, (1, 0, 4294967295), (1, 0, 4294967295), (1, 0, 4294967295)] 14699 133 ev_h0 = some ((0, 4294957296, 0), 14699, 133, ev_h0) := by
    have hk := ev_key_lt (xs 1)
    by_cases h : ev_key (xs 1) < 2147483648
    · exact ⟨_, ev_rel.iv ads (Nat.zero_le _) (show ev_key (xs 1) ≤ 2147483647 by omega), mo_duel_n l, ev_isV_ok mm_duel_n⟩
    · exact ⟨_, ev_rel.iv ads (show 2147483648 ≤ ev_key (xs 1) by omega) hk, mo_duel_p l, ev_isV_ok mm_duel_p⟩
  obtain ⟨tv, htv, hmx, hmm⟩ := key
  have has : ev_relS ads [tv, (1, 0, 4294967295), (1, 0, 4294967295), (1, 0, 4294967295)] [.int (xs 1), .int (xs 2), .int (xs 3), .int (xs 4)] := ⟨htv, htop _, htop _, htop _, trivial⟩
  refine lw_call (As := [.int (xs 1), .int (xs 2), .int (xs 3), .int (xs 4)]) (rest := []) hcx lwk_798 dl_798 (fun M hM => by rw [mt_duel M hM]; exact hmx) (by decide) hg_0 hwo hS has hbx rfl hsz (by decide) (by show 133 + (133 - 133) ≤ 600000; decide) (by show 14699 + (14699 - 14699) ≤ 7302250; decide) fun ads1 ws1 H1 locs1 v hp1 hwo1 hS1 hv1 => ?_
  have hv := ev_ret0 hv1 rfl
  subst hv
  have hbm1 : ads1[83]? = some bm := by obtain ⟨x, rfl⟩ := hp1; rw [List.getElem?_append_left (List.getElem?_eq_some_iff.mp hbm).1]; exact hbm
  refine lv_aload_n hx hb dl_801 rfl h2 ?_
  refine lw_arg hcx hS1 h0 h3 (k := 1) (by omega) (by decide) dl_802 dl_803 dl_804 dl_805 dl_806 ?_
  refine lw_arg hcx hS1 h0 h3 (k := 2) (by omega) (by decide) dl_807 dl_808 dl_809 dl_810 dl_811 ?_
  refine lw_arg hcx hS1 h0 h3 (k := 3) (by omega) (by decide) dl_812 dl_813 dl_814 dl_815 dl_816 ?_
  refine lw_arg hcx hS1 h0 h3 (k := 4) (by omega) (by decide) dl_817 dl_818 dl_819 dl_820 dl_821 ?_
  refine lw_call (As := [.int (xs 1), .int (xs 2), .int (xs 3), .int (xs 4)]) (rest := [.int (ev_i 4294957296)]) hcx lwk_822 dl_822 (fun M hM => ev_exec_ok en_all ev_MT_ok l 20 _ M hM _ _ _ _ _ hmm) (by decide) hg_83 hwo1 hS1 (has.mono hp1) hbm1 rfl hsz (Nat.le_of_ble_eq_true rfl) (by show 133 + (133 - 133) ≤ 600000; decide) (by show 14699 + (14699 - 14699) ≤ 7302250; decide) fun ads2 ws2 H2 locs2 v2 hp2 hwo2 hS2 hv2 => ?_
  have hv := ev_ret0 hv2 rfl
  subst hv
  exact lv_icmp_eq (tgt := 1136) hx hb dl_825 (by decide) (fun _ => hend H2 locs2 hS2) (fun z => absurd rfl z)
theorem lwk_836 : ev_ok1 ev_MT R_law false none 836 (.invokevirtual 124) 3 91 1 0 9 [5104, 5107, 1001, 5105, 5106] = true := by decide +kernel
theorem lwk_845 : ev_ok1 ev_MT R_law false none 845 (.invokevirtual 127) 3 151 1 0 10 [8060, 8063, 1012, 8061, 8062] = true := by decide +kernel
theorem lw_f_lies (hcx : lw_cx p s m c b L xs D cA) (hL : L = 6) {ads : List Nat} {ws : va_W} {H : Heap} {locs : List Loc} {ls : Array Slot} {bx bm : Nat} (hwo : ev_wo D cA (fun q => s.heap.size ≤ q) ads ws 133 ev_h0 H) (hS : va_S (fun q => s.heap.size ≤ q) s.heap H locs) (h0 : ls[0]? = some (.val (.ref b))) (h1 : ls[1]? = some (.val (.ref bx))) (h2 : ls[2]? = some (.val (.ref bm))) (h3 : ls[3]? = some (.val (.int 0))) (hsz : ls.size = 4) (hbx : ads[0]? = some bx) (hbm : ads[83]? = some bm) (hend : ∀ (H1 : Heap) (locs1 : List Loc), va_S (fun q => s.heap.size ≤ q) s.heap H1 locs1 → W p l e room_1 s m #[Value.ref b] below meth c H1 locs1 133 14699 Q (F0 m 1136 ls [])) : W p l e room_1 s m #[Value.ref b] below meth c H locs 133 14699 Q (F0 m 830 ls []) := by
  obtain ⟨hx, hb, hml, hown, hts, hX, hbl, hK, hNw⟩ := id hcx
  refine lv_aload_n hx hb dl_830 rfl h1 ?_
  refine lw_arg hcx hS h0 h3 (k := 1) (by omega) (by decide) dl_831 dl_832 dl_833 dl_834 dl_835 ?_
  obtain ⟨as, has, htwo⟩ := rs_lies ads (xs 1)
  obtain ⟨q, r, hq, hr, q0, r0, qr, qn, qs, rn, rs, qt⟩ := ev_two_ok htwo
  refine lw_call (As := [.int (xs 1)]) (rest := []) hcx lwk_836 dl_836 (fun M hM => ev_exec_ok en_all ev_MT_ok l 20 _ M hM _ _ _ _ _ hq) (by decide) hg_0 hwo hS has hbx rfl hsz (by decide) (by omega) (by omega) fun ads1 ws1 H1 locs1 v hp1 hwo1 hS1 hv1 => ?_
  have hv := ev_ret0 hv1 q0
  subst hv
  rw [show 133 + (q.2.2.1 - 133) = 133 by omega, show 14699 + (q.2.1 - 14699) = 14699 by omega]
  have hbm1 : ads1[83]? = some bm := by obtain ⟨x, rfl⟩ := hp1; rw [List.getElem?_append_left (List.getElem?_eq_some_iff.mp hbm).1]; exact hbm
  refine lv_aload_n hx hb dl_839 rfl h2 ?_
  refine lw_arg hcx hS1 h0 h3 (k := 1) (by omega) (by decide) dl_840 dl_841 dl_842 dl_843 dl_844 ?_
  refine lw_call (As := [.int (xs 1)]) (rest := [.int (ev_i q.1.2.1)]) hcx lwk_845 dl_845 (fun M hM => ev_exec_ok en_all ev_MT_ok l 20 _ M hM _ _ _ _ _ hr) (by omega) qt hwo1 hS1 (has.mono hp1) hbm1 rfl hsz (Nat.le_of_ble_eq_true rfl) (by omega) (by omega) fun ads2 ws2 H2 locs2 v2 hp2 hwo2 hS2 hv2 => ?_
  have hv := ev_ret0 hv2 r0
  subst hv
  rw [show 133 + (r.2.2.1 - q.2.2.1) = 133 by omega, show 14699 + (r.2.1 - q.2.1) = 14699 by omega, ← qr]
  exact lv_icmp_eq (tgt := 1136) hx hb dl_848 (by decide) (fun _ => hend H2 locs2 hS2) (fun z => absurd rfl z)
theorem lwk_882 : ev_ok1 ev_MT R_law false none 882 (.invokevirtual 128) 3 92 4 0 9 [5112, 5115, 1001, 5113, 5114] = true := by decide +kernel
theorem lwk_914 : ev_ok1 ev_MT R_law false none 914 (.invokevirtual 132) 3 173 4 0 10 [8172, 8175, 1012, 8173, 8174] = true := by decide +kernel
theorem lw_f_heard (hcx : lw_cx p s m c b L xs D cA) (hL : L = 6) {ads : List Nat} {ws : va_W} {H : Heap} {locs : List Loc} {ls : Array Slot} {bx bm : Nat} (hwo : ev_wo D cA (fun q => s.heap.size ≤ q) ads ws 133 ev_h0 H) (hS : va_S (fun q => s.heap.size ≤ q) s.heap H locs) (h0 : ls[0]? = some (.val (.ref b))) (h1 : ls[1]? = some (.val (.ref bx))) (h2 : ls[2]? = some (.val (.ref bm))) (h3 : ls[3]? = some (.val (.int 0))) (hsz : ls.size = 4) (hbx : ads[0]? = some bx) (hbm : ads[83]? = some bm) (hend : ∀ (H1 : Heap) (locs1 : List Loc), va_S (fun q => s.heap.size ≤ q) s.heap H1 locs1 → W p l e room_1 s m #[Value.ref b] below meth c H1 locs1 133 14699 Q (F0 m 1136 ls [])) : W p l e room_1 s m #[Value.ref b] below meth c H locs 133 14699 Q (F0 m 853 ls []) := by
  obtain ⟨hx, hb, hml, hown, hts, hX, hbl, hK, hNw⟩ := id hcx
  refine lv_aload_n hx hb dl_853 rfl h1 ?_
  refine lw_arg hcx hS h0 h3 (k := 1) (by omega) (by decide) dl_854 dl_855 dl_856 dl_857 dl_858 ?_
  refine lw_arg hcx hS h0 h3 (k := 2) (by omega) (by decide) dl_859 dl_860 dl_861 dl_862 dl_863 ?_
  refine lw_arg hcx hS h0 h3 (k := 3) (by omega) (by decide) dl_864 dl_865 dl_866 dl_867 dl_868 ?_
  refine lw_arg hcx hS h0 h3 (k := 4) (by omega) (by decide) dl_869 dl_870 dl_871 dl_872 dl_873 ?_
  refine lw_bool hx hb dl_874 dl_877 dl_878 dl_881 ?_
  obtain ⟨as, has, htwo⟩ := rs_heard ads (xs 1) (xs 2) (xs 3) (if xs 4 = 0 then 0 else 1) (by split <;> decide)
  obtain ⟨q, r, hq, hr, q0, r0, qr, qn, qs, rn, rs, qt⟩ := ev_two_ok htwo
  refine lw_call (As := [.int (xs 1), .int (xs 2), .int (xs 3), .int (if xs 4 = 0 then 0 else 1)]) (rest := []) hcx lwk_882 dl_882 (fun M hM => ev_exec_ok en_all ev_MT_ok l 20 _ M hM _ _ _ _ _ hq) (by decide) hg_0 hwo hS has hbx rfl hsz (by decide) (by omega) (by omega) fun ads1 ws1 H1 locs1 v hp1 hwo1 hS1 hv1 => ?_
  have hv := ev_ret0 hv1 q0
  subst hv
  rw [show 133 + (q.2.2.1 - 133) = 133 by omega, show 14699 + (q.2.1 - 14699) = 14699 by omega]
  have hbm1 : ads1[83]? = some bm := by obtain ⟨x, rfl⟩ := hp1; rw [List.getElem?_append_left (List.getElem?_eq_some_iff.mp hbm).1]; exact hbm
  refine lv_aload_n hx hb dl_885 rfl h2 ?_
  refine lw_arg hcx hS1 h0 h3 (k := 1) (by omega) (by decide) dl_886 dl_887 dl_888 dl_889 dl_890 ?_
  refine lw_arg hcx hS1 h0 h3 (k := 2) (by omega) (by decide) dl_891 dl_892 dl_893 dl_894 dl_895 ?_
  refine lw_arg hcx hS1 h0 h3 (k := 3) (by omega) (by decide) dl_896 dl_897 dl_898 dl_899 dl_900 ?_
  refine lw_arg hcx hS1 h0 h3 (k := 4) (by omega) (by decide) dl_901 dl_902 dl_903 dl_904 dl_905 ?_
  refine lw_bool hx hb dl_906 dl_909 dl_910 dl_913 ?_
  refine lw_call (As := [.int (xs 1), .int (xs 2), .int (xs 3), .int (if xs 4 = 0 then 0 else 1)]) (rest := [.int (ev_i q.1.2.1)]) hcx lwk_914 dl_914 (fun M hM => ev_exec_ok en_all ev_MT_ok l 20 _ M hM _ _ _ _ _ hr) (by omega) qt hwo1 hS1 (has.mono hp1) hbm1 rfl hsz (Nat.le_of_ble_eq_true rfl) (by omega) (by omega) fun ads2 ws2 H2 locs2 v2 hp2 hwo2 hS2 hv2 => ?_
  have hv := ev_ret0 hv2 r0
  subst hv
  rw [show 133 + (r.2.2.1 - q.2.2.1) = 133 by omega, show 14699 + (r.2.1 - q.2.1) = 14699 by omega, ← qr]
  exact lv_icmp_eq (tgt := 1136) hx hb dl_917 (by decide) (fun _ => hend H2 locs2 hS2) (fun z => absurd rfl z)
theorem lwk_928 : ev_ok1 ev_MT R_law false none 928 (.invokevirtual 133) 3 93 1 0 9 [5128, 5131, 1001, 5129, 5130] = true := by decide +kernel
theorem lwk_937 : ev_ok1 ev_MT R_law false none 937 (.invokevirtual 137) 3 174 1 0 10 [8188, 8191, 1012, 8189, 8190] = true := by decide +kernel
theorem lw_f_untell (hcx : lw_cx p s m c b L xs D cA) (hL : L = 6) {ads : List Nat} {ws : va_W} {H : Heap} {locs : List Loc} {ls : Array Slot} {bx bm : Nat} (hwo : ev_wo D cA (fun q => s.heap.size ≤ q) ads ws 133 ev_h0 H) (hS : va_S (fun q => s.heap.size ≤ q) s.heap H locs) (h0 : ls[0]? = some (.val (.ref b))) (h1 : ls[1]? = some (.val (.ref bx))) (h2 : ls[2]? = some (.val (.ref bm))) (h3 : ls[3]? = some (.val (.int 0))) (hsz : ls.size = 4) (hbx : ads[0]? = some bx) (hbm : ads[83]? = some bm) (hend : ∀ (H1 : Heap) (locs1 : List Loc), va_S (fun q => s.heap.size ≤ q) s.heap H1 locs1 → W p l e room_1 s m #[Value.ref b] below meth c H1 locs1 133 14699 Q (F0 m 1136 ls [])) : W p l e room_1 s m #[Value.ref b] below meth c H locs 133 14699 Q (F0 m 922 ls []) := by
  obtain ⟨hx, hb, hml, hown, hts, hX, hbl, hK, hNw⟩ := id hcx
  refine lv_aload_n hx hb dl_922 rfl h1 ?_
  refine lw_arg hcx hS h0 h3 (k := 1) (by omega) (by decide) dl_923 dl_924 dl_925 dl_926 dl_927 ?_
  obtain ⟨as, has, htwo⟩ := rs_untell ads (xs 1)
  obtain ⟨q, r, hq, hr, q0, r0, qr, qn, qs, rn, rs, qt⟩ := ev_two_ok htwo
  refine lw_call (As := [.int (xs 1)]) (rest := []) hcx lwk_928 dl_928 (fun M hM => ev_exec_ok en_all ev_MT_ok l 20 _ M hM _ _ _ _ _ hq) (by decide) hg_0 hwo hS has hbx rfl hsz (by decide) (by omega) (by omega) fun ads1 ws1 H1 locs1 v hp1 hwo1 hS1 hv1 => ?_
  have hv := ev_ret0 hv1 q0
  subst hv
  rw [show 133 + (q.2.2.1 - 133) = 133 by omega, show 14699 + (q.2.1 - 14699) = 14699 by omega]
  have hbm1 : ads1[83]? = some bm := by obtain ⟨x, rfl⟩ := hp1; rw [List.getElem?_append_left (List.getElem?_eq_some_iff.mp hbm).1]; exact hbm
  refine lv_aload_n hx hb dl_931 rfl h2 ?_
  refine lw_arg hcx hS1 h0 h3 (k := 1) (by omega) (by decide) dl_932 dl_933 dl_934 dl_935 dl_936 ?_
  refine lw_call (As := [.int (xs 1)]) (rest := [.int (ev_i q.1.2.1)]) hcx lwk_937 dl_937 (fun M hM => ev_exec_ok en_all ev_MT_ok l 20 _ M hM _ _ _ _ _ hr) (by omega) qt hwo1 hS1 (has.mono hp1) hbm1 rfl hsz (Nat.le_of_ble_eq_true rfl) (by omega) (by omega) fun ads2 ws2 H2 locs2 v2 hp2 hwo2 hS2 hv2 => ?_
  have hv := ev_ret0 hv2 r0
  subst hv
  rw [show 133 + (r.2.2.1 - q.2.2.1) = 133 by omega, show 14699 + (r.2.1 - q.2.1) = 14699 by omega, ← qr]
  exact lv_icmp_eq (tgt := 1136) hx hb dl_940 (by decide) (fun _ => hend H2 locs2 hS2) (fun z => absurd rfl z)
theorem lwk_951 : ev_ok1 ev_MT R_law false none 951 (.invokevirtual 138) 3 94 1 0 9 [5136, 5139, 1001, 5137, 5138] = true := by decide +kernel
theorem lwk_960 : ev_ok1 ev_MT R_law false none 960 (.invokevirtual 141) 3 175 1 0 10 [8192, 8195, 1012, 8193, 8194] = true := by decide +kernel
theorem lw_f_later (hcx : lw_cx p s m c b L xs D cA) (hL : L = 6) {ads : List Nat} {ws : va_W} {H : Heap} {locs : List Loc} {ls : Array Slot} {bx bm : Nat} (hwo : ev_wo D cA (fun q => s.heap.size ≤ q) ads ws 133 ev_h0 H) (hS : va_S (fun q => s.heap.size ≤ q) s.heap H locs) (h0 : ls[0]? = some (.val (.ref b))) (h1 : ls[1]? = some (.val (.ref bx))) (h2 : ls[2]? = some (.val (.ref bm))) (h3 : ls[3]? = some (.val (.int 0))) (hsz : ls.size = 4) (hbx : ads[0]? = some bx) (hbm : ads[83]? = some bm) (hend : ∀ (H1 : Heap) (locs1 : List Loc), va_S (fun q => s.heap.size ≤ q) s.heap H1 locs1 → W p l e room_1 s m #[Value.ref b] below meth c H1 locs1 133 14699 Q (F0 m 1136 ls [])) : W p l e room_1 s m #[Value.ref b] below meth c H locs 133 14699 Q (F0 m 945 ls []) := by
  obtain ⟨hx, hb, hml, hown, hts, hX, hbl, hK, hNw⟩ := id hcx
  refine lv_aload_n hx hb dl_945 rfl h1 ?_
  refine lw_arg hcx hS h0 h3 (k := 1) (by omega) (by decide) dl_946 dl_947 dl_948 dl_949 dl_950 ?_
  obtain ⟨as, has, htwo⟩ := rs_later ads (xs 1)
  obtain ⟨q, r, hq, hr, q0, r0, qr, qn, qs, rn, rs, qt⟩ := ev_two_ok htwo
  refine lw_call (As := [.int (xs 1)]) (rest := []) hcx lwk_951 dl_951 (fun M hM => ev_exec_ok en_all ev_MT_ok l 20 _ M hM _ _ _ _ _ hq) (by decide) hg_0 hwo hS has hbx rfl hsz (by decide) (by omega) (by omega) fun ads1 ws1 H1 locs1 v hp1 hwo1 hS1 hv1 => ?_
  have hv := ev_ret0 hv1 q0
  subst hv
  rw [show 133 + (q.2.2.1 - 133) = 133 by omega, show 14699 + (q.2.1 - 14699) = 14699 by omega]
  have hbm1 : ads1[83]? = some bm := by obtain ⟨x, rfl⟩ := hp1; rw [List.getElem?_append_left (List.getElem?_eq_some_iff.mp hbm).1]; exact hbm
  refine lv_aload_n hx hb dl_954 rfl h2 ?_
  refine lw_arg hcx hS1 h0 h3 (k := 1) (by omega) (by decide) dl_955 dl_956 dl_957 dl_958 dl_959 ?_
  refine lw_call (As := [.int (xs 1)]) (rest := [.int (ev_i q.1.2.1)]) hcx lwk_960 dl_960 (fun M hM => ev_exec_ok en_all ev_MT_ok l 20 _ M hM _ _ _ _ _ hr) (by omega) qt hwo1 hS1 (has.mono hp1) hbm1 rfl hsz (Nat.le_of_ble_eq_true rfl) (by omega) (by omega) fun ads2 ws2 H2 locs2 v2 hp2 hwo2 hS2 hv2 => ?_
  have hv := ev_ret0 hv2 r0
  subst hv
  rw [show 133 + (r.2.2.1 - q.2.2.1) = 133 by omega, show 14699 + (r.2.1 - q.2.1) = 14699 by omega, ← qr]
  exact lv_icmp_eq (tgt := 1136) hx hb dl_963 (by decide) (fun _ => hend H2 locs2 hS2) (fun z => absurd rfl z)
theorem lwk_974 : ev_ok1 ev_MT R_law false none 974 (.invokevirtual 142) 3 95 1 0 9 [5145, 5148, 1001, 5146, 5147] = true := by decide +kernel
theorem lwk_983 : ev_ok1 ev_MT R_law false none 983 (.invokevirtual 145) 3 178 1 0 10 [8197, 8200, 1012, 8198, 8199] = true := by decide +kernel
theorem lw_f_fit (hcx : lw_cx p s m c b L xs D cA) (hL : L = 6) {ads : List Nat} {ws : va_W} {H : Heap} {locs : List Loc} {ls : Array Slot} {bx bm : Nat} (hwo : ev_wo D cA (fun q => s.heap.size ≤ q) ads ws 133 ev_h0 H) (hS : va_S (fun q => s.heap.size ≤ q) s.heap H locs) (h0 : ls[0]? = some (.val (.ref b))) (h1 : ls[1]? = some (.val (.ref bx))) (h2 : ls[2]? = some (.val (.ref bm))) (h3 : ls[3]? = some (.val (.int 0))) (hsz : ls.size = 4) (hbx : ads[0]? = some bx) (hbm : ads[83]? = some bm) (hend : ∀ (H1 : Heap) (locs1 : List Loc), va_S (fun q => s.heap.size ≤ q) s.heap H1 locs1 → W p l e room_1 s m #[Value.ref b] below meth c H1 locs1 133 14699 Q (F0 m 1136 ls [])) : W p l e room_1 s m #[Value.ref b] below meth c H locs 133 14699 Q (F0 m 968 ls []) := by
  obtain ⟨hx, hb, hml, hown, hts, hX, hbl, hK, hNw⟩ := id hcx
  refine lv_aload_n hx hb dl_968 rfl h1 ?_
  refine lw_arg hcx hS h0 h3 (k := 1) (by omega) (by decide) dl_969 dl_970 dl_971 dl_972 dl_973 ?_
  obtain ⟨as, has, htwo⟩ := rs_fit ads (xs 1)
  obtain ⟨q, r, hq, hr, q0, r0, qr, qn, qs, rn, rs, qt⟩ := ev_two_ok htwo
  refine lw_call (As := [.int (xs 1)]) (rest := []) hcx lwk_974 dl_974 (fun M hM => ev_exec_ok en_all ev_MT_ok l 20 _ M hM _ _ _ _ _ hq) (by decide) hg_0 hwo hS has hbx rfl hsz (by decide) (by omega) (by omega) fun ads1 ws1 H1 locs1 v hp1 hwo1 hS1 hv1 => ?_
  have hv := ev_ret0 hv1 q0
  subst hv
  rw [show 133 + (q.2.2.1 - 133) = 133 by omega, show 14699 + (q.2.1 - 14699) = 14699 by omega]
  have hbm1 : ads1[83]? = some bm := by obtain ⟨x, rfl⟩ := hp1; rw [List.getElem?_append_left (List.getElem?_eq_some_iff.mp hbm).1]; exact hbm
  refine lv_aload_n hx hb dl_977 rfl h2 ?_
  refine lw_arg hcx hS1 h0 h3 (k := 1) (by omega) (by decide) dl_978 dl_979 dl_980 dl_981 dl_982 ?_
  refine lw_call (As := [.int (xs 1)]) (rest := [.int (ev_i q.1.2.1)]) hcx lwk_983 dl_983 (fun M hM => ev_exec_ok en_all ev_MT_ok l 20 _ M hM _ _ _ _ _ hr) (by omega) qt hwo1 hS1 (has.mono hp1) hbm1 rfl hsz (Nat.le_of_ble_eq_true rfl) (by omega) (by omega) fun ads2 ws2 H2 locs2 v2 hp2 hwo2 hS2 hv2 => ?_
  have hv := ev_ret0 hv2 r0
  subst hv
  rw [show 133 + (r.2.2.1 - q.2.2.1) = 133 by omega, show 14699 + (r.2.1 - q.2.1) = 14699 by omega, ← qr]
  exact lv_icmp_eq (tgt := 1136) hx hb dl_986 (by decide) (fun _ => hend H2 locs2 hS2) (fun z => absurd rfl z)
theorem lwk_1007 : ev_ok1 ev_MT R_law false none 1007 (.invokevirtual 146) 3 96 3 0 9 [5167, 5170, 1001, 5168, 5169] = true := by decide +kernel
theorem lwk_1026 : ev_ok1 ev_MT R_law false none 1026 (.invokevirtual 149) 3 179 3 0 10 [8209, 8212, 1012, 8210, 8211] = true := by decide +kernel
theorem lw_f_sure (hcx : lw_cx p s m c b L xs D cA) (hL : L = 6) {ads : List Nat} {ws : va_W} {H : Heap} {locs : List Loc} {ls : Array Slot} {bx bm : Nat} (hwo : ev_wo D cA (fun q => s.heap.size ≤ q) ads ws 133 ev_h0 H) (hS : va_S (fun q => s.heap.size ≤ q) s.heap H locs) (h0 : ls[0]? = some (.val (.ref b))) (h1 : ls[1]? = some (.val (.ref bx))) (h2 : ls[2]? = some (.val (.ref bm))) (h3 : ls[3]? = some (.val (.int 0))) (hsz : ls.size = 4) (hbx : ads[0]? = some bx) (hbm : ads[83]? = some bm) (hend : ∀ (H1 : Heap) (locs1 : List Loc), va_S (fun q => s.heap.size ≤ q) s.heap H1 locs1 → W p l e room_1 s m #[Value.ref b] below meth c H1 locs1 133 14699 Q (F0 m 1136 ls [])) : W p l e room_1 s m #[Value.ref b] below meth c H locs 133 14699 Q (F0 m 991 ls []) := by
  obtain ⟨hx, hb, hml, hown, hts, hX, hbl, hK, hNw⟩ := id hcx
  refine lv_aload_n hx hb dl_991 rfl h1 ?_
  refine lw_arg hcx hS h0 h3 (k := 1) (by omega) (by decide) dl_992 dl_993 dl_994 dl_995 dl_996 ?_
  refine lw_arg hcx hS h0 h3 (k := 2) (by omega) (by decide) dl_997 dl_998 dl_999 dl_1000 dl_1001 ?_
  refine lw_arg hcx hS h0 h3 (k := 3) (by omega) (by decide) dl_1002 dl_1003 dl_1004 dl_1005 dl_1006 ?_
  obtain ⟨as, has, htwo⟩ := rs_sure ads (xs 1) (xs 2) (xs 3)
  obtain ⟨q, r, hq, hr, q0, r0, qr, qn, qs, rn, rs, qt⟩ := ev_two_ok htwo
  refine lw_call (As := [.int (xs 1), .int (xs 2), .int (xs 3)]) (rest := []) hcx lwk_1007 dl_1007 (fun M hM => ev_exec_ok en_all ev_MT_ok l 20 _ M hM _ _ _ _ _ hq) (by decide) hg_0 hwo hS has hbx rfl hsz (by decide) (by omega) (by omega) fun ads1 ws1 H1 locs1 v hp1 hwo1 hS1 hv1 => ?_
  have hv := ev_ret0 hv1 q0
  subst hv
  rw [show 133 + (q.2.2.1 - 133) = 133 by omega, show 14699 + (q.2.1 - 14699) = 14699 by omega]
  have hbm1 : ads1[83]? = some bm := by obtain ⟨x, rfl⟩ := hp1; rw [List.getElem?_append_left (List.getElem?_eq_some_iff.mp hbm).1]; exact hbm
  refine lv_aload_n hx hb dl_1010 rfl h2 ?_
  refine lw_arg hcx hS1 h0 h3 (k := 1) (by omega) (by decide) dl_1011 dl_1012 dl_1013 dl_1014 dl_1015 ?_
  refine lw_arg hcx hS1 h0 h3 (k := 2) (by omega) (by decide) dl_1016 dl_1017 dl_1018 dl_1019 dl_1020 ?_
  refine lw_arg hcx hS1 h0 h3 (k := 3) (by omega) (by decide) dl_1021 dl_1022 dl_1023 dl_1024 dl_1025 ?_
  refine lw_call (As := [.int (xs 1), .int (xs 2), .int (xs 3)]) (rest := [.int (ev_i q.1.2.1)]) hcx lwk_1026 dl_1026 (fun M hM => ev_exec_ok en_all ev_MT_ok l 20 _ M hM _ _ _ _ _ hr) (by omega) qt hwo1 hS1 (has.mono hp1) hbm1 rfl hsz (Nat.le_of_ble_eq_true rfl) (by omega) (by omega) fun ads2 ws2 H2 locs2 v2 hp2 hwo2 hS2 hv2 => ?_
  have hv := ev_ret0 hv2 r0
  subst hv
  rw [show 133 + (r.2.2.1 - q.2.2.1) = 133 by omega, show 14699 + (r.2.1 - q.2.1) = 14699 by omega, ← qr]
  exact lv_icmp_eq (tgt := 1136) hx hb dl_1029 (by decide) (fun _ => hend H2 locs2 hS2) (fun z => absurd rfl z)
theorem lwk_1045 : ev_ok1 ev_MT R_law false none 1045 (.invokevirtual 150) 3 97 2 0 9 [5176, 5179, 1001, 5177, 5178] = true := by decide +kernel
theorem lwk_1059 : ev_ok1 ev_MT R_law false none 1059 (.invokevirtual 153) 3 180 2 0 10 [8213, 8216, 1012, 8214, 8215] = true := by decide +kernel
theorem lw_f_ask (hcx : lw_cx p s m c b L xs D cA) (hL : L = 6) {ads : List Nat} {ws : va_W} {H : Heap} {locs : List Loc} {ls : Array Slot} {bx bm : Nat} (hwo : ev_wo D cA (fun q => s.heap.size ≤ q) ads ws 133 ev_h0 H) (hS : va_S (fun q => s.heap.size ≤ q) s.heap H locs) (h0 : ls[0]? = some (.val (.ref b))) (h1 : ls[1]? = some (.val (.ref bx))) (h2 : ls[2]? = some (.val (.ref bm))) (h3 : ls[3]? = some (.val (.int 0))) (hsz : ls.size = 4) (hbx : ads[0]? = some bx) (hbm : ads[83]? = some bm) (hend : ∀ (H1 : Heap) (locs1 : List Loc), va_S (fun q => s.heap.size ≤ q) s.heap H1 locs1 → W p l e room_1 s m #[Value.ref b] below meth c H1 locs1 133 14699 Q (F0 m 1136 ls [])) : W p l e room_1 s m #[Value.ref b] below meth c H locs 133 14699 Q (F0 m 1034 ls []) := by
  obtain ⟨hx, hb, hml, hown, hts, hX, hbl, hK, hNw⟩ := id hcx
  refine lv_aload_n hx hb dl_1034 rfl h1 ?_
  refine lw_arg hcx hS h0 h3 (k := 1) (by omega) (by decide) dl_1035 dl_1036 dl_1037 dl_1038 dl_1039 ?_
  refine lw_arg hcx hS h0 h3 (k := 2) (by omega) (by decide) dl_1040 dl_1041 dl_1042 dl_1043 dl_1044 ?_
  obtain ⟨as, has, htwo⟩ := rs_ask ads (xs 1) (xs 2)
  obtain ⟨q, r, hq, hr, q0, r0, qr, qn, qs, rn, rs, qt⟩ := ev_two_ok htwo
  refine lw_call (As := [.int (xs 1), .int (xs 2)]) (rest := []) hcx lwk_1045 dl_1045 (fun M hM => ev_exec_ok en_all ev_MT_ok l 20 _ M hM _ _ _ _ _ hq) (by decide) hg_0 hwo hS has hbx rfl hsz (by decide) (by omega) (by omega) fun ads1 ws1 H1 locs1 v hp1 hwo1 hS1 hv1 => ?_
  have hv := ev_ret0 hv1 q0
  subst hv
  rw [show 133 + (q.2.2.1 - 133) = 133 by omega, show 14699 + (q.2.1 - 14699) = 14699 by omega]
  have hbm1 : ads1[83]? = some bm := by obtain ⟨x, rfl⟩ := hp1; rw [List.getElem?_append_left (List.getElem?_eq_some_iff.mp hbm).1]; exact hbm
  refine lv_aload_n hx hb dl_1048 rfl h2 ?_
  refine lw_arg hcx hS1 h0 h3 (k := 1) (by omega) (by decide) dl_1049 dl_1050 dl_1051 dl_1052 dl_1053 ?_
  refine lw_arg hcx hS1 h0 h3 (k := 2) (by omega) (by decide) dl_1054 dl_1055 dl_1056 dl_1057 dl_1058 ?_
  refine lw_call (As := [.int (xs 1), .int (xs 2)]) (rest := [.int (ev_i q.1.2.1)]) hcx lwk_1059 dl_1059 (fun M hM => ev_exec_ok en_all ev_MT_ok l 20 _ M hM _ _ _ _ _ hr) (by omega) qt hwo1 hS1 (has.mono hp1) hbm1 rfl hsz (Nat.le_of_ble_eq_true rfl) (by omega) (by omega) fun ads2 ws2 H2 locs2 v2 hp2 hwo2 hS2 hv2 => ?_
  have hv := ev_ret0 hv2 r0
  subst hv
  rw [show 133 + (r.2.2.1 - q.2.2.1) = 133 by omega, show 14699 + (r.2.1 - q.2.1) = 14699 by omega, ← qr]
  exact lv_icmp_eq (tgt := 1136) hx hb dl_1062 (by decide) (fun _ => hend H2 locs2 hS2) (fun z => absurd rfl z)
theorem lwk_1073 : ev_ok1 ev_MT R_law false none 1073 (.invokevirtual 154) 3 98 1 0 9 [5185, 5188, 1001, 5186, 5187] = true := by decide +kernel
theorem lwk_1082 : ev_ok1 ev_MT R_law false none 1082 (.invokevirtual 157) 3 181 1 0 10 [8217, 8220, 1012, 8218, 8219] = true := by decide +kernel
theorem lw_f_image (hcx : lw_cx p s m c b L xs D cA) (hL : L = 6) {ads : List Nat} {ws : va_W} {H : Heap} {locs : List Loc} {ls : Array Slot} {bx bm : Nat} (hwo : ev_wo D cA (fun q => s.heap.size ≤ q) ads ws 133 ev_h0 H) (hS : va_S (fun q => s.heap.size ≤ q) s.heap H locs) (h0 : ls[0]? = some (.val (.ref b))) (h1 : ls[1]? = some (.val (.ref bx))) (h2 : ls[2]? = some (.val (.ref bm))) (h3 : ls[3]? = some (.val (.int 0))) (hsz : ls.size = 4) (hbx : ads[0]? = some bx) (hbm : ads[83]? = some bm) (hend : ∀ (H1 : Heap) (locs1 : List Loc), va_S (fun q => s.heap.size ≤ q) s.heap H1 locs1 → W p l e room_1 s m #[Value.ref b] below meth c H1 locs1 133 14699 Q (F0 m 1136 ls [])) : W p l e room_1 s m #[Value.ref b] below meth c H locs 133 14699 Q (F0 m 1067 ls []) := by
  obtain ⟨hx, hb, hml, hown, hts, hX, hbl, hK, hNw⟩ := id hcx
  refine lv_aload_n hx hb dl_1067 rfl h1 ?_
  refine lw_arg hcx hS h0 h3 (k := 1) (by omega) (by decide) dl_1068 dl_1069 dl_1070 dl_1071 dl_1072 ?_
  obtain ⟨as, has, htwo⟩ := rs_image ads (xs 1)
  obtain ⟨q, r, hq, hr, q0, r0, qr, qn, qs, rn, rs, qt⟩ := ev_two_ok htwo
  refine lw_call (As := [.int (xs 1)]) (rest := []) hcx lwk_1073 dl_1073 (fun M hM => ev_exec_ok en_all ev_MT_ok l 20 _ M hM _ _ _ _ _ hq) (by decide) hg_0 hwo hS has hbx rfl hsz (by decide) (by omega) (by omega) fun ads1 ws1 H1 locs1 v hp1 hwo1 hS1 hv1 => ?_
  have hv := ev_ret0 hv1 q0
  subst hv
  rw [show 133 + (q.2.2.1 - 133) = 133 by omega, show 14699 + (q.2.1 - 14699) = 14699 by omega]
  have hbm1 : ads1[83]? = some bm := by obtain ⟨x, rfl⟩ := hp1; rw [List.getElem?_append_left (List.getElem?_eq_some_iff.mp hbm).1]; exact hbm
  refine lv_aload_n hx hb dl_1076 rfl h2 ?_
  refine lw_arg hcx hS1 h0 h3 (k := 1) (by omega) (by decide) dl_1077 dl_1078 dl_1079 dl_1080 dl_1081 ?_
  refine lw_call (As := [.int (xs 1)]) (rest := [.int (ev_i q.1.2.1)]) hcx lwk_1082 dl_1082 (fun M hM => ev_exec_ok en_all ev_MT_ok l 20 _ M hM _ _ _ _ _ hr) (by omega) qt hwo1 hS1 (has.mono hp1) hbm1 rfl hsz (Nat.le_of_ble_eq_true rfl) (by omega) (by omega) fun ads2 ws2 H2 locs2 v2 hp2 hwo2 hS2 hv2 => ?_
  have hv := ev_ret0 hv2 r0
  subst hv
  rw [show 133 + (r.2.2.1 - q.2.2.1) = 133 by omega, show 14699 + (r.2.1 - q.2.1) = 14699 by omega, ← qr]
  exact lv_icmp_eq (tgt := 1136) hx hb dl_1085 (by decide) (fun _ => hend H2 locs2 hS2) (fun z => absurd rfl z)
theorem lwk_1096 : ev_ok1 ev_MT R_law false none 1096 (.invokevirtual 158) 3 99 1 0 9 [5193, 5196, 1001, 5194, 5195] = true := by decide +kernel
theorem lwk_1105 : ev_ok1 ev_MT R_law false none 1105 (.invokevirtual 161) 3 182 1 0 10 [8221, 8224, 1012, 8222, 8223] = true := by decide +kernel
theorem lw_f_back (hcx : lw_cx p s m c b L xs D cA) (hL : L = 6) {ads : List Nat} {ws : va_W} {H : Heap} {locs : List Loc} {ls : Array Slot} {bx bm : Nat} (hwo : ev_wo D cA (fun q => s.heap.size ≤ q) ads ws 133 ev_h0 H) (hS : va_S (fun q => s.heap.size ≤ q) s.heap H locs) (h0 : ls[0]? = some (.val (.ref b))) (h1 : ls[1]? = some (.val (.ref bx))) (h2 : ls[2]? = some (.val (.ref bm))) (h3 : ls[3]? = some (.val (.int 0))) (hsz : ls.size = 4) (hbx : ads[0]? = some bx) (hbm : ads[83]? = some bm) (hend : ∀ (H1 : Heap) (locs1 : List Loc), va_S (fun q => s.heap.size ≤ q) s.heap H1 locs1 → W p l e room_1 s m #[Value.ref b] below meth c H1 locs1 133 14699 Q (F0 m 1136 ls [])) : W p l e room_1 s m #[Value.ref b] below meth c H locs 133 14699 Q (F0 m 1090 ls []) := by
  obtain ⟨hx, hb, hml, hown, hts, hX, hbl, hK, hNw⟩ := id hcx
  refine lv_aload_n hx hb dl_1090 rfl h1 ?_
  refine lw_arg hcx hS h0 h3 (k := 1) (by omega) (by decide) dl_1091 dl_1092 dl_1093 dl_1094 dl_1095 ?_
  obtain ⟨as, has, htwo⟩ := rs_back ads (xs 1)
  obtain ⟨q, r, hq, hr, q0, r0, qr, qn, qs, rn, rs, qt⟩ := ev_two_ok htwo
  refine lw_call (As := [.int (xs 1)]) (rest := []) hcx lwk_1096 dl_1096 (fun M hM => ev_exec_ok en_all ev_MT_ok l 20 _ M hM _ _ _ _ _ hq) (by decide) hg_0 hwo hS has hbx rfl hsz (by decide) (by omega) (by omega) fun ads1 ws1 H1 locs1 v hp1 hwo1 hS1 hv1 => ?_
  have hv := ev_ret0 hv1 q0
  subst hv
  rw [show 133 + (q.2.2.1 - 133) = 133 by omega, show 14699 + (q.2.1 - 14699) = 14699 by omega]
  have hbm1 : ads1[83]? = some bm := by obtain ⟨x, rfl⟩ := hp1; rw [List.getElem?_append_left (List.getElem?_eq_some_iff.mp hbm).1]; exact hbm
  refine lv_aload_n hx hb dl_1099 rfl h2 ?_
  refine lw_arg hcx hS1 h0 h3 (k := 1) (by omega) (by decide) dl_1100 dl_1101 dl_1102 dl_1103 dl_1104 ?_
  refine lw_call (As := [.int (xs 1)]) (rest := [.int (ev_i q.1.2.1)]) hcx lwk_1105 dl_1105 (fun M hM => ev_exec_ok en_all ev_MT_ok l 20 _ M hM _ _ _ _ _ hr) (by omega) qt hwo1 hS1 (has.mono hp1) hbm1 rfl hsz (Nat.le_of_ble_eq_true rfl) (by omega) (by omega) fun ads2 ws2 H2 locs2 v2 hp2 hwo2 hS2 hv2 => ?_
  have hv := ev_ret0 hv2 r0
  subst hv
  rw [show 133 + (r.2.2.1 - q.2.2.1) = 133 by omega, show 14699 + (r.2.1 - q.2.1) = 14699 by omega, ← qr]
  exact lv_icmp_eq (tgt := 1136) hx hb dl_1108 (by decide) (fun _ => hend H2 locs2 hS2) (fun z => absurd rfl z)
theorem lwk_1119 : ev_ok1 ev_MT R_law false none 1119 (.invokevirtual 162) 3 100 1 0 9 [5202, 5205, 1001, 5203, 5204] = true := by decide +kernel
theorem lwk_1128 : ev_ok1 ev_MT R_law false none 1128 (.invokevirtual 165) 3 183 1 0 10 [8225, 8228, 1012, 8226, 8227] = true := by decide +kernel
theorem lw_f_about (hcx : lw_cx p s m c b L xs D cA) (hL : L = 6) {ads : List Nat} {ws : va_W} {H : Heap} {locs : List Loc} {ls : Array Slot} {bx bm : Nat} (hwo : ev_wo D cA (fun q => s.heap.size ≤ q) ads ws 133 ev_h0 H) (hS : va_S (fun q => s.heap.size ≤ q) s.heap H locs) (h0 : ls[0]? = some (.val (.ref b))) (h1 : ls[1]? = some (.val (.ref bx))) (h2 : ls[2]? = some (.val (.ref bm))) (h3 : ls[3]? = some (.val (.int 0))) (hsz : ls.size = 4) (hbx : ads[0]? = some bx) (hbm : ads[83]? = some bm) (hend : ∀ (H1 : Heap) (locs1 : List Loc), va_S (fun q => s.heap.size ≤ q) s.heap H1 locs1 → W p l e room_1 s m #[Value.ref b] below meth c H1 locs1 133 14699 Q (F0 m 1136 ls [])) : W p l e room_1 s m #[Value.ref b] below meth c H locs 133 14699 Q (F0 m 1113 ls []) := by
  obtain ⟨hx, hb, hml, hown, hts, hX, hbl, hK, hNw⟩ := id hcx
  refine lv_aload_n hx hb dl_1113 rfl h1 ?_
  refine lw_arg hcx hS h0 h3 (k := 1) (by omega) (by decide) dl_1114 dl_1115 dl_1116 dl_1117 dl_1118 ?_
  obtain ⟨as, has, htwo⟩ := rs_about ads (xs 1)
  obtain ⟨q, r, hq, hr, q0, r0, qr, qn, qs, rn, rs, qt⟩ := ev_two_ok htwo
  refine lw_call (As := [.int (xs 1)]) (rest := []) hcx lwk_1119 dl_1119 (fun M hM => ev_exec_ok en_all ev_MT_ok l 20 _ M hM _ _ _ _ _ hq) (by decide) hg_0 hwo hS has hbx rfl hsz (by decide) (by omega) (by omega) fun ads1 ws1 H1 locs1 v hp1 hwo1 hS1 hv1 => ?_
  have hv := ev_ret0 hv1 q0
  subst hv
  rw [show 133 + (q.2.2.1 - 133) = 133 by omega, show 14699 + (q.2.1 - 14699) = 14699 by omega]
  have hbm1 : ads1[83]? = some bm := by obtain ⟨x, rfl⟩ := hp1; rw [List.getElem?_append_left (List.getElem?_eq_some_iff.mp hbm).1]; exact hbm
  refine lv_aload_n hx hb dl_1122 rfl h2 ?_
  refine lw_arg hcx hS1 h0 h3 (k := 1) (by omega) (by decide) dl_1123 dl_1124 dl_1125 dl_1126 dl_1127 ?_
  refine lw_call (As := [.int (xs 1)]) (rest := [.int (ev_i q.1.2.1)]) hcx lwk_1128 dl_1128 (fun M hM => ev_exec_ok en_all ev_MT_ok l 20 _ M hM _ _ _ _ _ hr) (by omega) qt hwo1 hS1 (has.mono hp1) hbm1 rfl hsz (Nat.le_of_ble_eq_true rfl) (by omega) (by omega) fun ads2 ws2 H2 locs2 v2 hp2 hwo2 hS2 hv2 => ?_
  have hv := ev_ret0 hv2 r0
  subst hv
  rw [show 133 + (r.2.2.1 - q.2.2.1) = 133 by omega, show 14699 + (r.2.1 - q.2.1) = 14699 by omega, ← qr]
  exact lv_icmp_eq (tgt := 1136) hx hb dl_1131 (by decide) (fun _ => hend H2 locs2 hS2) (fun z => absurd rfl z)
end LawCases
