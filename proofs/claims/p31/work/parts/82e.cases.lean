/-! THE LAW'S CASES -/
theorem lw_n7 : (11 : Nat) ≠ 7 := by decide
theorem lw_relB {ads r : List Nat} (x : Int32) : e2_rel ads r (11, 2147483648, 2147483649) (.int (if x = 0 then 0 else 1)) := by
  by_cases h : x = 0
  · rw [if_pos h]
    exact ⟨0, rfl, by decide +kernel, by decide +kernel⟩
  · rw [if_neg h]
    exact ⟨1, rfl, by decide +kernel, by decide +kernel⟩
section LawCases
variable {p : Program} {l : Launch} {e : Env} {s : State} {m : MethodId} {below : List Frame} {meth : Method} {c : Code} {b L : Nat} {xs : Nat → Int32} {D : va_G} {c1 : Nat → ClassId} {Q : State → Prop} {hC hN : Nat → ev_H} {EC ER : e2_E} {hB : ev_H} {hR hM : Nat → Nat → ev_H}
theorem lw_bool (hx : p.tables.exec = Jvm.exec) (hb : c.code = code) {H : Heap} {locs : List Loc} {cells slots : Nat} {ls : Array Slot} {rest : List Value} {x : Int32} {pc : Nat} (d0 : decode code pc = .ok (.ifCond .eq 7, 3)) (d1 : decode code (pc + 3) = .ok (.iconst 1, 1)) (d2 : decode code (pc + 4) = .ok (.goto 4, 3)) (d3 : decode code (pc + 7) = .ok (.iconst 0, 1)) (kk : W p l e room_1 s m #[Value.ref b] below meth c H locs cells slots Q (F0 m (pc + 8) ls (.int (if x = 0 then 0 else 1) :: rest))) : W p l e room_1 s m #[Value.ref b] below meth c H locs cells slots Q (F0 m pc ls (.int x :: rest)) := by
  by_cases h : x = 0
  · rw [if_pos h] at kk
    exact lv_if_eq (tgt := pc + 7) hx hb d0 (by omega) (fun _ => lv_iconst (v := 0) hx hb d3 (by decide) kk) (fun z => absurd h z)
  · rw [if_neg h] at kk
    exact lv_if_eq (tgt := pc + 7) hx hb d0 (by omega) (fun z => absurd z h) (fun _ => lv_iconst (v := 1) hx hb d1 (by decide) (lv_goto (tgt := pc + 8) hx hb d2 (by omega) kk))
theorem lwk_218 : ev_ok1 e2_MT R_law false none 218 (.invokevirtual 13) 3 123 5 0 9 [2226, 2229, 1001, 2227, 2228] = true := by decide +kernel
theorem lwk_248 : ev_ok1 e2_MT R_law false none 248 (.invokevirtual 17) 3 289 5 0 10 [8229, 8232, 1012, 8230, 8231] = true := by decide +kernel
theorem lwc_feed (hen : en_ok) (hcx : lw_cx p s m c b L xs D (lw_no c1)) (hf1 : lw_F1 hC hN EC) (hf2 : lw_F2 hB hR hM ER) {ads : List Nat} {ws : va_W} {H : Heap} {locs : List Loc} {ls : Array Slot} {bx bm i T cells slots : Nat} (hL : L ≤ 3072) (hi : i + 6 ≤ L) (hT : T ≤ 100000) (hst : lw_St hC hR D (fun q => s.heap.size ≤ q) c1 ads T T ws H) (hS : va_S (fun q => s.heap.size ≤ q) s.heap H locs) (h0 : ls[0]? = some (.val (.ref b))) (h1 : ls[1]? = some (.val (.ref bx))) (h2 : ls[2]? = some (.val (.ref bm))) (h3 : ls[3]? = some (.val (.int (ev_i i)))) (hsz : ls.size = 4) (hbx : ads[0]? = some bx) (hbm : ads[83]? = some bm) (hr1 : cells ≤ 600000) (hr2 : slots ≤ 7302250) (hend : ∀ (ws1 : va_W) (H1 : Heap) (locs1 : List Loc) (T1 : Nat), T1 ≤ 100000 → lw_St hC hR D (fun q => s.heap.size ≤ q) c1 ads T1 T1 ws1 H1 → va_S (fun q => s.heap.size ≤ q) s.heap H1 locs1 → W p l e room_1 s m #[Value.ref b] below meth c H1 locs1 cells slots Q (F0 m 1136 ls [])) (hcc : lw_cC l hC hN EC 123 [(11, 0, 4294967295), (11, 0, 4294967295), (11, 0, 4294967295), (11, 0, 4294967295), (11, 0, 4294967295)]) (hcr : lw_cR l hR hM ER 289 [(11, 0, 4294967295), (11, 0, 4294967295), (11, 0, 4294967295), (11, 0, 4294967295), (11, 0, 4294967295)]) : W p l e room_1 s m #[Value.ref b] below meth c H locs cells slots Q (F0 m 192 ls []) := by
  obtain ⟨hx, hb, -⟩ := id hcx
  refine lv_aload_n hx hb dl_192 rfl h1 ?_
  refine lw_arg hcx hS h0 h3 (k := 1) (by omega) (by omega) hL dl_193 dl_194 dl_195 dl_196 dl_197 ?_
  refine lw_arg hcx hS h0 h3 (k := 2) (by omega) (by omega) hL dl_198 dl_199 dl_200 dl_201 dl_202 ?_
  refine lw_arg hcx hS h0 h3 (k := 3) (by omega) (by omega) hL dl_203 dl_204 dl_205 dl_206 dl_207 ?_
  refine lw_arg hcx hS h0 h3 (k := 4) (by omega) (by omega) hL dl_208 dl_209 dl_210 dl_211 dl_212 ?_
  refine lw_arg hcx hS h0 h3 (k := 5) (by omega) (by omega) hL dl_213 dl_214 dl_215 dl_216 dl_217 ?_
  refine lw_callC (As := [.int (xs (i + 1)), .int (xs (i + 2)), .int (xs (i + 3)), .int (xs (i + 4)), .int (xs (i + 5))]) (rest := []) hcx hf1 lwk_218 dl_218 hcc hT hst hS (fun r => ⟨lw_relT _, lw_n7, lw_relT _, lw_n7, lw_relT _, lw_n7, lw_relT _, lw_n7, lw_relT _, lw_n7, trivial⟩) hbx rfl hsz (by show 0 ≤ 4; omega) hr1 hr2 fun ws1 H1 locs1 x1 hst1 hS1 => ?_
  refine lv_pop hx hb dl_221 rfl ?_
  refine lv_aload_n hx hb dl_222 rfl h2 ?_
  refine lw_arg hcx hS1 h0 h3 (k := 1) (by omega) (by omega) hL dl_223 dl_224 dl_225 dl_226 dl_227 ?_
  refine lw_arg hcx hS1 h0 h3 (k := 2) (by omega) (by omega) hL dl_228 dl_229 dl_230 dl_231 dl_232 ?_
  refine lw_arg hcx hS1 h0 h3 (k := 3) (by omega) (by omega) hL dl_233 dl_234 dl_235 dl_236 dl_237 ?_
  refine lw_arg hcx hS1 h0 h3 (k := 4) (by omega) (by omega) hL dl_238 dl_239 dl_240 dl_241 dl_242 ?_
  refine lw_arg hcx hS1 h0 h3 (k := 5) (by omega) (by omega) hL dl_243 dl_244 dl_245 dl_246 dl_247 ?_
  refine lw_callR (As := [.int (xs (i + 1)), .int (xs (i + 2)), .int (xs (i + 3)), .int (xs (i + 4)), .int (xs (i + 5))]) (rest := []) hcx hf2 lwk_248 dl_248 hcr hT hst1 hS1 (fun r => ⟨lw_relT _, lw_n7, lw_relT _, lw_n7, lw_relT _, lw_n7, lw_relT _, lw_n7, lw_relT _, lw_n7, trivial⟩) hbm rfl hsz (by show 0 ≤ 4; omega) hr1 hr2 fun ws2 H2 locs2 x2 hst2 hS2 => ?_
  refine lv_pop hx hb dl_251 rfl ?_
  exact lv_goto (tgt := 1136) hx hb dl_252 (by omega) (hend ws2 H2 locs2 _ hT hst2 hS2)
theorem lwk_261 : ev_ok1 e2_MT R_law false none 261 (.invokevirtual 18) 3 124 1 0 9 [2238, 3001, 1001, 2239, 3000] = true := by decide +kernel
theorem lwk_271 : ev_ok1 e2_MT R_law false none 271 (.invokevirtual 22) 3 290 1 0 10 [8233, 8236, 1012, 8234, 8235] = true := by decide +kernel
theorem lwc_end (hen : en_ok) (hcx : lw_cx p s m c b L xs D (lw_no c1)) (hf1 : lw_F1 hC hN EC) (hf2 : lw_F2 hB hR hM ER) {ads : List Nat} {ws : va_W} {H : Heap} {locs : List Loc} {ls : Array Slot} {bx bm i T cells slots : Nat} (hL : L ≤ 3072) (hi : i + 6 ≤ L) (hT : T ≤ 100000) (hst : lw_St hC hR D (fun q => s.heap.size ≤ q) c1 ads T T ws H) (hS : va_S (fun q => s.heap.size ≤ q) s.heap H locs) (h0 : ls[0]? = some (.val (.ref b))) (h1 : ls[1]? = some (.val (.ref bx))) (h2 : ls[2]? = some (.val (.ref bm))) (h3 : ls[3]? = some (.val (.int (ev_i i)))) (hsz : ls.size = 4) (hbx : ads[0]? = some bx) (hbm : ads[83]? = some bm) (hr1 : cells ≤ 600000) (hr2 : slots ≤ 7302250) (hend : ∀ (ws1 : va_W) (H1 : Heap) (locs1 : List Loc) (T1 : Nat), T1 ≤ 100000 → lw_St hC hR D (fun q => s.heap.size ≤ q) c1 ads T1 T1 ws1 H1 → va_S (fun q => s.heap.size ≤ q) s.heap H1 locs1 → W p l e room_1 s m #[Value.ref b] below meth c H1 locs1 cells slots Q (F0 m 1136 ls [])) (hcc : lw_cC l hC hN EC 124 [(11, 0, 4294967295)]) (hcr : lw_cR l hR hM ER 290 [(11, 0, 4294967295)]) : W p l e room_1 s m #[Value.ref b] below meth c H locs cells slots Q (F0 m 255 ls []) := by
  obtain ⟨hx, hb, -⟩ := id hcx
  refine lv_aload_n hx hb dl_255 rfl h1 ?_
  refine lw_arg hcx hS h0 h3 (k := 1) (by omega) (by omega) hL dl_256 dl_257 dl_258 dl_259 dl_260 ?_
  refine lw_callC (As := [.int (xs (i + 1))]) (rest := []) hcx hf1 lwk_261 dl_261 hcc hT hst hS (fun r => ⟨lw_relT _, lw_n7, trivial⟩) hbx rfl hsz (by show 0 ≤ 4; omega) hr1 hr2 fun ws1 H1 locs1 x1 hst1 hS1 => ?_
  refine lv_pop hx hb dl_264 rfl ?_
  refine lv_aload_n hx hb dl_265 rfl h2 ?_
  refine lw_arg hcx hS1 h0 h3 (k := 1) (by omega) (by omega) hL dl_266 dl_267 dl_268 dl_269 dl_270 ?_
  refine lw_callR (As := [.int (xs (i + 1))]) (rest := []) hcx hf2 lwk_271 dl_271 hcr hT hst1 hS1 (fun r => ⟨lw_relT _, lw_n7, trivial⟩) hbm rfl hsz (by show 0 ≤ 4; omega) hr1 hr2 fun ws2 H2 locs2 x2 hst2 hS2 => ?_
  refine lv_pop hx hb dl_274 rfl ?_
  exact lv_goto (tgt := 1136) hx hb dl_275 (by omega) (hend ws2 H2 locs2 _ hT hst2 hS2)
theorem lwk_279 : ev_ok1 e2_MT R_law false none 279 (.invokevirtual 23) 3 125 0 0 9 [3006, 3009, 1001, 3007, 3008] = true := by decide +kernel
theorem lwk_284 : ev_ok1 e2_MT R_law false none 284 (.invokevirtual 27) 3 185 0 0 10 [6221, 6224, 1012, 6222, 6223] = true := by decide +kernel
theorem lwc_meadow (hen : en_ok) (hcx : lw_cx p s m c b L xs D (lw_no c1)) (hf1 : lw_F1 hC hN EC) (hf2 : lw_F2 hB hR hM ER) {ads : List Nat} {ws : va_W} {H : Heap} {locs : List Loc} {ls : Array Slot} {bx bm i T cells slots : Nat} (hL : L ≤ 3072) (hi : i + 6 ≤ L) (hT : T ≤ 100000) (hst : lw_St hC hR D (fun q => s.heap.size ≤ q) c1 ads T T ws H) (hS : va_S (fun q => s.heap.size ≤ q) s.heap H locs) (h0 : ls[0]? = some (.val (.ref b))) (h1 : ls[1]? = some (.val (.ref bx))) (h2 : ls[2]? = some (.val (.ref bm))) (h3 : ls[3]? = some (.val (.int (ev_i i)))) (hsz : ls.size = 4) (hbx : ads[0]? = some bx) (hbm : ads[83]? = some bm) (hr1 : cells ≤ 600000) (hr2 : slots ≤ 7302250) (hend : ∀ (ws1 : va_W) (H1 : Heap) (locs1 : List Loc) (T1 : Nat), T1 ≤ 100000 → lw_St hC hR D (fun q => s.heap.size ≤ q) c1 ads T1 T1 ws1 H1 → va_S (fun q => s.heap.size ≤ q) s.heap H1 locs1 → W p l e room_1 s m #[Value.ref b] below meth c H1 locs1 cells slots Q (F0 m 1136 ls [])) (hcc : lw_cC l hC hN EC 125 []) : W p l e room_1 s m #[Value.ref b] below meth c H locs cells slots Q (F0 m 278 ls []) := by
  obtain ⟨hx, hb, -⟩ := id hcx
  refine lv_aload_n hx hb dl_278 rfl h1 ?_
  refine lw_callC (As := []) (rest := []) hcx hf1 lwk_279 dl_279 hcc hT hst hS (fun r => trivial) hbx rfl hsz (by show 0 ≤ 4; omega) hr1 hr2 fun ws1 H1 locs1 x1 hst1 hS1 => ?_
  refine lv_pop hx hb dl_282 rfl ?_
  refine lv_aload_n hx hb dl_283 rfl h2 ?_
  refine lw_callX (P := fun _ T3 => T3 = T) (as := []) (As := []) (rest := []) (Dd := 8) hcx hf2 lwk_284 dl_284 (by omega) (lw_hcM hen hf2) hst1 hS1 trivial hbm rfl hsz (by show 0 ≤ 4; omega) hr1 hr2 fun ws2 H2 locs2 z2 T4 hP2 hst2 hS2 => ?_
  subst hP2
  refine lv_pop hx hb dl_287 rfl ?_
  exact lv_goto (tgt := 1136) hx hb dl_288 (by omega) (hend ws2 H2 locs2 _ hT hst2 hS2)
theorem lwk_297 : ev_ok1 e2_MT R_law false none 297 (.invokevirtual 28) 3 126 1 0 9 [4005, 4008, 1001, 4006, 4007] = true := by decide +kernel
theorem lwk_307 : ev_ok1 e2_MT R_law false none 307 (.invokevirtual 31) 3 211 1 0 10 [7148, 7151, 1012, 7149, 7150] = true := by decide +kernel
theorem lwc_fault (hen : en_ok) (hcx : lw_cx p s m c b L xs D (lw_no c1)) (hf1 : lw_F1 hC hN EC) (hf2 : lw_F2 hB hR hM ER) {ads : List Nat} {ws : va_W} {H : Heap} {locs : List Loc} {ls : Array Slot} {bx bm i T cells slots : Nat} (hL : L ≤ 3072) (hi : i + 6 ≤ L) (hT : T ≤ 100000) (hst : lw_St hC hR D (fun q => s.heap.size ≤ q) c1 ads T T ws H) (hS : va_S (fun q => s.heap.size ≤ q) s.heap H locs) (h0 : ls[0]? = some (.val (.ref b))) (h1 : ls[1]? = some (.val (.ref bx))) (h2 : ls[2]? = some (.val (.ref bm))) (h3 : ls[3]? = some (.val (.int (ev_i i)))) (hsz : ls.size = 4) (hbx : ads[0]? = some bx) (hbm : ads[83]? = some bm) (hr1 : cells ≤ 600000) (hr2 : slots ≤ 7302250) (hend : ∀ (ws1 : va_W) (H1 : Heap) (locs1 : List Loc) (T1 : Nat), T1 ≤ 100000 → lw_St hC hR D (fun q => s.heap.size ≤ q) c1 ads T1 T1 ws1 H1 → va_S (fun q => s.heap.size ≤ q) s.heap H1 locs1 → W p l e room_1 s m #[Value.ref b] below meth c H1 locs1 cells slots Q (F0 m 1136 ls [])) (hcc : lw_cC l hC hN EC 126 [(11, 0, 4294967295)]) (hcr : lw_cR l hR hM ER 211 [(11, 0, 4294967295)]) : W p l e room_1 s m #[Value.ref b] below meth c H locs cells slots Q (F0 m 291 ls []) := by
  obtain ⟨hx, hb, -⟩ := id hcx
  refine lv_aload_n hx hb dl_291 rfl h1 ?_
  refine lw_arg hcx hS h0 h3 (k := 1) (by omega) (by omega) hL dl_292 dl_293 dl_294 dl_295 dl_296 ?_
  refine lw_callC (As := [.int (xs (i + 1))]) (rest := []) hcx hf1 lwk_297 dl_297 hcc hT hst hS (fun r => ⟨lw_relT _, lw_n7, trivial⟩) hbx rfl hsz (by show 0 ≤ 4; omega) hr1 hr2 fun ws1 H1 locs1 x1 hst1 hS1 => ?_
  refine lv_pop hx hb dl_300 rfl ?_
  refine lv_aload_n hx hb dl_301 rfl h2 ?_
  refine lw_arg hcx hS1 h0 h3 (k := 1) (by omega) (by omega) hL dl_302 dl_303 dl_304 dl_305 dl_306 ?_
  refine lw_callR (As := [.int (xs (i + 1))]) (rest := []) hcx hf2 lwk_307 dl_307 hcr hT hst1 hS1 (fun r => ⟨lw_relT _, lw_n7, trivial⟩) hbm rfl hsz (by show 0 ≤ 4; omega) hr1 hr2 fun ws2 H2 locs2 x2 hst2 hS2 => ?_
  refine lv_pop hx hb dl_310 rfl ?_
  exact lv_goto (tgt := 1136) hx hb dl_311 (by omega) (hend ws2 H2 locs2 _ hT hst2 hS2)
theorem lwk_320 : ev_ok1 e2_MT R_law false none 320 (.invokevirtual 32) 3 127 1 0 9 [4009, 4012, 1001, 4010, 4011] = true := by decide +kernel
theorem lwk_330 : ev_ok1 e2_MT R_law false none 330 (.invokevirtual 35) 3 236 1 0 10 [7152, 7155, 1012, 7153, 7154] = true := by decide +kernel
theorem lwc_thing (hen : en_ok) (hcx : lw_cx p s m c b L xs D (lw_no c1)) (hf1 : lw_F1 hC hN EC) (hf2 : lw_F2 hB hR hM ER) {ads : List Nat} {ws : va_W} {H : Heap} {locs : List Loc} {ls : Array Slot} {bx bm i T cells slots : Nat} (hL : L ≤ 3072) (hi : i + 6 ≤ L) (hT : T ≤ 100000) (hst : lw_St hC hR D (fun q => s.heap.size ≤ q) c1 ads T T ws H) (hS : va_S (fun q => s.heap.size ≤ q) s.heap H locs) (h0 : ls[0]? = some (.val (.ref b))) (h1 : ls[1]? = some (.val (.ref bx))) (h2 : ls[2]? = some (.val (.ref bm))) (h3 : ls[3]? = some (.val (.int (ev_i i)))) (hsz : ls.size = 4) (hbx : ads[0]? = some bx) (hbm : ads[83]? = some bm) (hr1 : cells ≤ 600000) (hr2 : slots ≤ 7302250) (hend : ∀ (ws1 : va_W) (H1 : Heap) (locs1 : List Loc) (T1 : Nat), T1 ≤ 100000 → lw_St hC hR D (fun q => s.heap.size ≤ q) c1 ads T1 T1 ws1 H1 → va_S (fun q => s.heap.size ≤ q) s.heap H1 locs1 → W p l e room_1 s m #[Value.ref b] below meth c H1 locs1 cells slots Q (F0 m 1136 ls [])) (hcc : lw_cC l hC hN EC 127 [(11, 0, 4294967295)]) (hcr : lw_cR l hR hM ER 236 [(11, 0, 4294967295)]) : W p l e room_1 s m #[Value.ref b] below meth c H locs cells slots Q (F0 m 314 ls []) := by
  obtain ⟨hx, hb, -⟩ := id hcx
  refine lv_aload_n hx hb dl_314 rfl h1 ?_
  refine lw_arg hcx hS h0 h3 (k := 1) (by omega) (by omega) hL dl_315 dl_316 dl_317 dl_318 dl_319 ?_
  refine lw_callC (As := [.int (xs (i + 1))]) (rest := []) hcx hf1 lwk_320 dl_320 hcc hT hst hS (fun r => ⟨lw_relT _, lw_n7, trivial⟩) hbx rfl hsz (by show 0 ≤ 4; omega) hr1 hr2 fun ws1 H1 locs1 x1 hst1 hS1 => ?_
  refine lv_pop hx hb dl_323 rfl ?_
  refine lv_aload_n hx hb dl_324 rfl h2 ?_
  refine lw_arg hcx hS1 h0 h3 (k := 1) (by omega) (by omega) hL dl_325 dl_326 dl_327 dl_328 dl_329 ?_
  refine lw_callR (As := [.int (xs (i + 1))]) (rest := []) hcx hf2 lwk_330 dl_330 hcr hT hst1 hS1 (fun r => ⟨lw_relT _, lw_n7, trivial⟩) hbm rfl hsz (by show 0 ≤ 4; omega) hr1 hr2 fun ws2 H2 locs2 x2 hst2 hS2 => ?_
  refine lv_pop hx hb dl_333 rfl ?_
  exact lv_goto (tgt := 1136) hx hb dl_334 (by omega) (hend ws2 H2 locs2 _ hT hst2 hS2)
theorem lwk_348 : ev_ok1 e2_MT R_law false none 348 (.invokevirtual 36) 3 128 2 0 9 [4017, 4020, 1001, 4018, 4019] = true := by decide +kernel
theorem lwk_363 : ev_ok1 e2_MT R_law false none 363 (.invokevirtual 40) 3 237 2 0 10 [7163, 7166, 1012, 7164, 7165] = true := by decide +kernel
theorem lwc_glyph (hen : en_ok) (hcx : lw_cx p s m c b L xs D (lw_no c1)) (hf1 : lw_F1 hC hN EC) (hf2 : lw_F2 hB hR hM ER) {ads : List Nat} {ws : va_W} {H : Heap} {locs : List Loc} {ls : Array Slot} {bx bm i T cells slots : Nat} (hL : L ≤ 3072) (hi : i + 6 ≤ L) (hT : T ≤ 100000) (hst : lw_St hC hR D (fun q => s.heap.size ≤ q) c1 ads T T ws H) (hS : va_S (fun q => s.heap.size ≤ q) s.heap H locs) (h0 : ls[0]? = some (.val (.ref b))) (h1 : ls[1]? = some (.val (.ref bx))) (h2 : ls[2]? = some (.val (.ref bm))) (h3 : ls[3]? = some (.val (.int (ev_i i)))) (hsz : ls.size = 4) (hbx : ads[0]? = some bx) (hbm : ads[83]? = some bm) (hr1 : cells ≤ 600000) (hr2 : slots ≤ 7302250) (hend : ∀ (ws1 : va_W) (H1 : Heap) (locs1 : List Loc) (T1 : Nat), T1 ≤ 100000 → lw_St hC hR D (fun q => s.heap.size ≤ q) c1 ads T1 T1 ws1 H1 → va_S (fun q => s.heap.size ≤ q) s.heap H1 locs1 → W p l e room_1 s m #[Value.ref b] below meth c H1 locs1 cells slots Q (F0 m 1136 ls [])) (hcc : lw_cC l hC hN EC 128 [(11, 0, 4294967295), (11, 0, 4294967295)]) (hcr : lw_cR l hR hM ER 237 [(11, 0, 4294967295), (11, 0, 4294967295)]) : W p l e room_1 s m #[Value.ref b] below meth c H locs cells slots Q (F0 m 337 ls []) := by
  obtain ⟨hx, hb, -⟩ := id hcx
  refine lv_aload_n hx hb dl_337 rfl h1 ?_
  refine lw_arg hcx hS h0 h3 (k := 1) (by omega) (by omega) hL dl_338 dl_339 dl_340 dl_341 dl_342 ?_
  refine lw_arg hcx hS h0 h3 (k := 2) (by omega) (by omega) hL dl_343 dl_344 dl_345 dl_346 dl_347 ?_
  refine lw_callC (As := [.int (xs (i + 1)), .int (xs (i + 2))]) (rest := []) hcx hf1 lwk_348 dl_348 hcc hT hst hS (fun r => ⟨lw_relT _, lw_n7, lw_relT _, lw_n7, trivial⟩) hbx rfl hsz (by show 0 ≤ 4; omega) hr1 hr2 fun ws1 H1 locs1 x1 hst1 hS1 => ?_
  refine lv_pop hx hb dl_351 rfl ?_
  refine lv_aload_n hx hb dl_352 rfl h2 ?_
  refine lw_arg hcx hS1 h0 h3 (k := 1) (by omega) (by omega) hL dl_353 dl_354 dl_355 dl_356 dl_357 ?_
  refine lw_arg hcx hS1 h0 h3 (k := 2) (by omega) (by omega) hL dl_358 dl_359 dl_360 dl_361 dl_362 ?_
  refine lw_callR (As := [.int (xs (i + 1)), .int (xs (i + 2))]) (rest := []) hcx hf2 lwk_363 dl_363 hcr hT hst1 hS1 (fun r => ⟨lw_relT _, lw_n7, lw_relT _, lw_n7, trivial⟩) hbm rfl hsz (by show 0 ≤ 4; omega) hr1 hr2 fun ws2 H2 locs2 x2 hst2 hS2 => ?_
  refine lv_pop hx hb dl_366 rfl ?_
  exact lv_goto (tgt := 1136) hx hb dl_367 (by omega) (hend ws2 H2 locs2 _ hT hst2 hS2)
theorem lwk_381 : ev_ok1 e2_MT R_law false none 381 (.invokevirtual 41) 3 129 2 0 9 [4090, 4093, 1001, 4091, 4092] = true := by decide +kernel
theorem lwk_396 : ev_ok1 e2_MT R_law false none 396 (.invokevirtual 44) 3 240 2 0 10 [8005, 8008, 1012, 8006, 8007] = true := by decide +kernel
theorem lwc_plot (hen : en_ok) (hcx : lw_cx p s m c b L xs D (lw_no c1)) (hf1 : lw_F1 hC hN EC) (hf2 : lw_F2 hB hR hM ER) {ads : List Nat} {ws : va_W} {H : Heap} {locs : List Loc} {ls : Array Slot} {bx bm i T cells slots : Nat} (hL : L ≤ 3072) (hi : i + 6 ≤ L) (hT : T ≤ 100000) (hst : lw_St hC hR D (fun q => s.heap.size ≤ q) c1 ads T T ws H) (hS : va_S (fun q => s.heap.size ≤ q) s.heap H locs) (h0 : ls[0]? = some (.val (.ref b))) (h1 : ls[1]? = some (.val (.ref bx))) (h2 : ls[2]? = some (.val (.ref bm))) (h3 : ls[3]? = some (.val (.int (ev_i i)))) (hsz : ls.size = 4) (hbx : ads[0]? = some bx) (hbm : ads[83]? = some bm) (hr1 : cells ≤ 600000) (hr2 : slots ≤ 7302250) (hend : ∀ (ws1 : va_W) (H1 : Heap) (locs1 : List Loc) (T1 : Nat), T1 ≤ 100000 → lw_St hC hR D (fun q => s.heap.size ≤ q) c1 ads T1 T1 ws1 H1 → va_S (fun q => s.heap.size ≤ q) s.heap H1 locs1 → W p l e room_1 s m #[Value.ref b] below meth c H1 locs1 cells slots Q (F0 m 1136 ls [])) (hcc : lw_cC l hC hN EC 129 [(11, 0, 4294967295), (11, 0, 4294967295)]) (hcr : lw_cR l hR hM ER 240 [(11, 0, 4294967295), (11, 0, 4294967295)]) : W p l e room_1 s m #[Value.ref b] below meth c H locs cells slots Q (F0 m 370 ls []) := by
  obtain ⟨hx, hb, -⟩ := id hcx
  refine lv_aload_n hx hb dl_370 rfl h1 ?_
  refine lw_arg hcx hS h0 h3 (k := 1) (by omega) (by omega) hL dl_371 dl_372 dl_373 dl_374 dl_375 ?_
  refine lw_arg hcx hS h0 h3 (k := 2) (by omega) (by omega) hL dl_376 dl_377 dl_378 dl_379 dl_380 ?_
  refine lw_callC (As := [.int (xs (i + 1)), .int (xs (i + 2))]) (rest := []) hcx hf1 lwk_381 dl_381 hcc hT hst hS (fun r => ⟨lw_relT _, lw_n7, lw_relT _, lw_n7, trivial⟩) hbx rfl hsz (by show 0 ≤ 4; omega) hr1 hr2 fun ws1 H1 locs1 x1 hst1 hS1 => ?_
  refine lv_pop hx hb dl_384 rfl ?_
  refine lv_aload_n hx hb dl_385 rfl h2 ?_
  refine lw_arg hcx hS1 h0 h3 (k := 1) (by omega) (by omega) hL dl_386 dl_387 dl_388 dl_389 dl_390 ?_
  refine lw_arg hcx hS1 h0 h3 (k := 2) (by omega) (by omega) hL dl_391 dl_392 dl_393 dl_394 dl_395 ?_
  refine lw_callR (As := [.int (xs (i + 1)), .int (xs (i + 2))]) (rest := []) hcx hf2 lwk_396 dl_396 hcr hT hst1 hS1 (fun r => ⟨lw_relT _, lw_n7, lw_relT _, lw_n7, trivial⟩) hbm rfl hsz (by show 0 ≤ 4; omega) hr1 hr2 fun ws2 H2 locs2 x2 hst2 hS2 => ?_
  refine lv_pop hx hb dl_399 rfl ?_
  exact lv_goto (tgt := 1136) hx hb dl_400 (by omega) (hend ws2 H2 locs2 _ hT hst2 hS2)
theorem lwk_409 : ev_ok1 e2_MT R_law false none 409 (.invokevirtual 45) 3 130 1 0 9 [4103, 4106, 1001, 4104, 4105] = true := by decide +kernel
theorem lwk_419 : ev_ok1 e2_MT R_law false none 419 (.invokevirtual 48) 3 243 1 0 10 [8017, 8020, 1012, 8018, 8019] = true := by decide +kernel
theorem lwc_mow (hen : en_ok) (hcx : lw_cx p s m c b L xs D (lw_no c1)) (hf1 : lw_F1 hC hN EC) (hf2 : lw_F2 hB hR hM ER) {ads : List Nat} {ws : va_W} {H : Heap} {locs : List Loc} {ls : Array Slot} {bx bm i T cells slots : Nat} (hL : L ≤ 3072) (hi : i + 6 ≤ L) (hT : T ≤ 100000) (hst : lw_St hC hR D (fun q => s.heap.size ≤ q) c1 ads T T ws H) (hS : va_S (fun q => s.heap.size ≤ q) s.heap H locs) (h0 : ls[0]? = some (.val (.ref b))) (h1 : ls[1]? = some (.val (.ref bx))) (h2 : ls[2]? = some (.val (.ref bm))) (h3 : ls[3]? = some (.val (.int (ev_i i)))) (hsz : ls.size = 4) (hbx : ads[0]? = some bx) (hbm : ads[83]? = some bm) (hr1 : cells ≤ 600000) (hr2 : slots ≤ 7302250) (hend : ∀ (ws1 : va_W) (H1 : Heap) (locs1 : List Loc) (T1 : Nat), T1 ≤ 100000 → lw_St hC hR D (fun q => s.heap.size ≤ q) c1 ads T1 T1 ws1 H1 → va_S (fun q => s.heap.size ≤ q) s.heap H1 locs1 → W p l e room_1 s m #[Value.ref b] below meth c H1 locs1 cells slots Q (F0 m 1136 ls [])) (hcc : lw_cC l hC hN EC 130 [(11, 0, 4294967295)]) (hcr : lw_cR l hR hM ER 243 [(11, 0, 4294967295)]) : W p l e room_1 s m #[Value.ref b] below meth c H locs cells slots Q (F0 m 403 ls []) := by
  obtain ⟨hx, hb, -⟩ := id hcx
  refine lv_aload_n hx hb dl_403 rfl h1 ?_
  refine lw_arg hcx hS h0 h3 (k := 1) (by omega) (by omega) hL dl_404 dl_405 dl_406 dl_407 dl_408 ?_
  refine lw_callC (As := [.int (xs (i + 1))]) (rest := []) hcx hf1 lwk_409 dl_409 hcc hT hst hS (fun r => ⟨lw_relT _, lw_n7, trivial⟩) hbx rfl hsz (by show 0 ≤ 4; omega) hr1 hr2 fun ws1 H1 locs1 x1 hst1 hS1 => ?_
  refine lv_pop hx hb dl_412 rfl ?_
  refine lv_aload_n hx hb dl_413 rfl h2 ?_
  refine lw_arg hcx hS1 h0 h3 (k := 1) (by omega) (by omega) hL dl_414 dl_415 dl_416 dl_417 dl_418 ?_
  refine lw_callR (As := [.int (xs (i + 1))]) (rest := []) hcx hf2 lwk_419 dl_419 hcr hT hst1 hS1 (fun r => ⟨lw_relT _, lw_n7, trivial⟩) hbm rfl hsz (by show 0 ≤ 4; omega) hr1 hr2 fun ws2 H2 locs2 x2 hst2 hS2 => ?_
  refine lv_pop hx hb dl_422 rfl ?_
  exact lv_goto (tgt := 1136) hx hb dl_423 (by omega) (hend ws2 H2 locs2 _ hT hst2 hS2)
theorem lwk_432 : ev_ok1 e2_MT R_law false none 432 (.invokevirtual 49) 3 131 1 0 9 [4120, 4123, 1001, 4121, 4122] = true := by decide +kernel
theorem lwk_442 : ev_ok1 e2_MT R_law false none 442 (.invokevirtual 52) 3 244 1 0 10 [8028, 8031, 1012, 8029, 8030] = true := by decide +kernel
theorem lwc_sow (hen : en_ok) (hcx : lw_cx p s m c b L xs D (lw_no c1)) (hf1 : lw_F1 hC hN EC) (hf2 : lw_F2 hB hR hM ER) {ads : List Nat} {ws : va_W} {H : Heap} {locs : List Loc} {ls : Array Slot} {bx bm i T cells slots : Nat} (hL : L ≤ 3072) (hi : i + 6 ≤ L) (hT : T ≤ 100000) (hst : lw_St hC hR D (fun q => s.heap.size ≤ q) c1 ads T T ws H) (hS : va_S (fun q => s.heap.size ≤ q) s.heap H locs) (h0 : ls[0]? = some (.val (.ref b))) (h1 : ls[1]? = some (.val (.ref bx))) (h2 : ls[2]? = some (.val (.ref bm))) (h3 : ls[3]? = some (.val (.int (ev_i i)))) (hsz : ls.size = 4) (hbx : ads[0]? = some bx) (hbm : ads[83]? = some bm) (hr1 : cells ≤ 600000) (hr2 : slots ≤ 7302250) (hend : ∀ (ws1 : va_W) (H1 : Heap) (locs1 : List Loc) (T1 : Nat), T1 ≤ 100000 → lw_St hC hR D (fun q => s.heap.size ≤ q) c1 ads T1 T1 ws1 H1 → va_S (fun q => s.heap.size ≤ q) s.heap H1 locs1 → W p l e room_1 s m #[Value.ref b] below meth c H1 locs1 cells slots Q (F0 m 1136 ls [])) (hcc : lw_cC l hC hN EC 131 [(11, 0, 4294967295)]) (hcr : lw_cR l hR hM ER 244 [(11, 0, 4294967295)]) : W p l e room_1 s m #[Value.ref b] below meth c H locs cells slots Q (F0 m 426 ls []) := by
  obtain ⟨hx, hb, -⟩ := id hcx
  refine lv_aload_n hx hb dl_426 rfl h1 ?_
  refine lw_arg hcx hS h0 h3 (k := 1) (by omega) (by omega) hL dl_427 dl_428 dl_429 dl_430 dl_431 ?_
  refine lw_callC (As := [.int (xs (i + 1))]) (rest := []) hcx hf1 lwk_432 dl_432 hcc hT hst hS (fun r => ⟨lw_relT _, lw_n7, trivial⟩) hbx rfl hsz (by show 0 ≤ 4; omega) hr1 hr2 fun ws1 H1 locs1 x1 hst1 hS1 => ?_
  refine lv_pop hx hb dl_435 rfl ?_
  refine lv_aload_n hx hb dl_436 rfl h2 ?_
  refine lw_arg hcx hS1 h0 h3 (k := 1) (by omega) (by omega) hL dl_437 dl_438 dl_439 dl_440 dl_441 ?_
  refine lw_callR (As := [.int (xs (i + 1))]) (rest := []) hcx hf2 lwk_442 dl_442 hcr hT hst1 hS1 (fun r => ⟨lw_relT _, lw_n7, trivial⟩) hbm rfl hsz (by show 0 ≤ 4; omega) hr1 hr2 fun ws2 H2 locs2 x2 hst2 hS2 => ?_
  refine lv_pop hx hb dl_445 rfl ?_
  exact lv_goto (tgt := 1136) hx hb dl_446 (by omega) (hend ws2 H2 locs2 _ hT hst2 hS2)
theorem lwk_450 : ev_ok1 e2_MT R_law false none 450 (.invokevirtual 53) 3 132 0 0 9 [4124, 4127, 1001, 4125, 4126] = true := by decide +kernel
theorem lwk_455 : ev_ok1 e2_MT R_law false none 455 (.invokevirtual 56) 3 246 0 0 10 [8032, 8035, 1012, 8033, 8034] = true := by decide +kernel
theorem lwc_year (hen : en_ok) (hcx : lw_cx p s m c b L xs D (lw_no c1)) (hf1 : lw_F1 hC hN EC) (hf2 : lw_F2 hB hR hM ER) {ads : List Nat} {ws : va_W} {H : Heap} {locs : List Loc} {ls : Array Slot} {bx bm i T cells slots : Nat} (hL : L ≤ 3072) (hi : i + 6 ≤ L) (hT : T ≤ 100000) (hst : lw_St hC hR D (fun q => s.heap.size ≤ q) c1 ads T T ws H) (hS : va_S (fun q => s.heap.size ≤ q) s.heap H locs) (h0 : ls[0]? = some (.val (.ref b))) (h1 : ls[1]? = some (.val (.ref bx))) (h2 : ls[2]? = some (.val (.ref bm))) (h3 : ls[3]? = some (.val (.int (ev_i i)))) (hsz : ls.size = 4) (hbx : ads[0]? = some bx) (hbm : ads[83]? = some bm) (hr1 : cells ≤ 600000) (hr2 : slots ≤ 7302250) (hend : ∀ (ws1 : va_W) (H1 : Heap) (locs1 : List Loc) (T1 : Nat), T1 ≤ 100000 → lw_St hC hR D (fun q => s.heap.size ≤ q) c1 ads T1 T1 ws1 H1 → va_S (fun q => s.heap.size ≤ q) s.heap H1 locs1 → W p l e room_1 s m #[Value.ref b] below meth c H1 locs1 cells slots Q (F0 m 1136 ls [])) (hcc : lw_cC l hC hN EC 132 []) (hcr : lw_cR l hR hM ER 246 []) : W p l e room_1 s m #[Value.ref b] below meth c H locs cells slots Q (F0 m 449 ls []) := by
  obtain ⟨hx, hb, -⟩ := id hcx
  refine lv_aload_n hx hb dl_449 rfl h1 ?_
  refine lw_callC (As := []) (rest := []) hcx hf1 lwk_450 dl_450 hcc hT hst hS (fun r => trivial) hbx rfl hsz (by show 0 ≤ 4; omega) hr1 hr2 fun ws1 H1 locs1 x1 hst1 hS1 => ?_
  refine lv_pop hx hb dl_453 rfl ?_
  refine lv_aload_n hx hb dl_454 rfl h2 ?_
  refine lw_callR (As := []) (rest := []) hcx hf2 lwk_455 dl_455 hcr hT hst1 hS1 (fun r => trivial) hbm rfl hsz (by show 0 ≤ 4; omega) hr1 hr2 fun ws2 H2 locs2 x2 hst2 hS2 => ?_
  refine lv_pop hx hb dl_458 rfl ?_
  exact lv_goto (tgt := 1136) hx hb dl_459 (by omega) (hend ws2 H2 locs2 _ hT hst2 hS2)
theorem lwk_463 : ev_ok1 e2_MT R_law false none 463 (.invokevirtual 57) 3 133 0 0 9 [4144, 4147, 1001, 4145, 4146] = true := by decide +kernel
theorem lwk_468 : ev_ok1 e2_MT R_law false none 468 (.invokevirtual 61) 3 247 0 0 10 [8040, 8043, 1012, 8041, 8042] = true := by decide +kernel
theorem lwc_undo (hen : en_ok) (hcx : lw_cx p s m c b L xs D (lw_no c1)) (hf1 : lw_F1 hC hN EC) (hf2 : lw_F2 hB hR hM ER) {ads : List Nat} {ws : va_W} {H : Heap} {locs : List Loc} {ls : Array Slot} {bx bm i T cells slots : Nat} (hL : L ≤ 3072) (hi : i + 6 ≤ L) (hT : T ≤ 100000) (hst : lw_St hC hR D (fun q => s.heap.size ≤ q) c1 ads T T ws H) (hS : va_S (fun q => s.heap.size ≤ q) s.heap H locs) (h0 : ls[0]? = some (.val (.ref b))) (h1 : ls[1]? = some (.val (.ref bx))) (h2 : ls[2]? = some (.val (.ref bm))) (h3 : ls[3]? = some (.val (.int (ev_i i)))) (hsz : ls.size = 4) (hbx : ads[0]? = some bx) (hbm : ads[83]? = some bm) (hr1 : cells ≤ 600000) (hr2 : slots ≤ 7302250) (hend : ∀ (ws1 : va_W) (H1 : Heap) (locs1 : List Loc) (T1 : Nat), T1 ≤ 100000 → lw_St hC hR D (fun q => s.heap.size ≤ q) c1 ads T1 T1 ws1 H1 → va_S (fun q => s.heap.size ≤ q) s.heap H1 locs1 → W p l e room_1 s m #[Value.ref b] below meth c H1 locs1 cells slots Q (F0 m 1136 ls [])) (hcc : lw_cC l hC hN EC 133 []) : W p l e room_1 s m #[Value.ref b] below meth c H locs cells slots Q (F0 m 462 ls []) := by
  obtain ⟨hx, hb, -⟩ := id hcx
  refine lv_aload_n hx hb dl_462 rfl h1 ?_
  refine lw_callC (As := []) (rest := []) hcx hf1 lwk_463 dl_463 hcc hT hst hS (fun r => trivial) hbx rfl hsz (by show 0 ≤ 4; omega) hr1 hr2 fun ws1 H1 locs1 x1 hst1 hS1 => ?_
  refine lv_pop hx hb dl_466 rfl ?_
  refine lv_aload_n hx hb dl_467 rfl h2 ?_
  refine lw_callX (P := fun _ T3 => T3 = T) (as := []) (As := []) (rest := []) (Dd := 2) hcx hf2 lwk_468 dl_468 (by omega) (lw_hcU hen hf2 (Or.inl rfl)) hst1 hS1 trivial hbm rfl hsz (by show 0 ≤ 4; omega) hr1 hr2 fun ws2 H2 locs2 z2 T4 hP2 hst2 hS2 => ?_
  subst hP2
  refine lv_pop hx hb dl_471 rfl ?_
  exact lv_goto (tgt := 1136) hx hb dl_472 (by omega) (hend ws2 H2 locs2 _ hT hst2 hS2)
theorem lwk_476 : ev_ok1 e2_MT R_law false none 476 (.invokevirtual 62) 3 134 0 0 9 [4156, 4159, 1001, 4157, 4158] = true := by decide +kernel
theorem lwk_481 : ev_ok1 e2_MT R_law false none 481 (.invokevirtual 65) 3 248 0 0 10 [8048, 8051, 1012, 8049, 8050] = true := by decide +kernel
theorem lwc_redo (hen : en_ok) (hcx : lw_cx p s m c b L xs D (lw_no c1)) (hf1 : lw_F1 hC hN EC) (hf2 : lw_F2 hB hR hM ER) {ads : List Nat} {ws : va_W} {H : Heap} {locs : List Loc} {ls : Array Slot} {bx bm i T cells slots : Nat} (hL : L ≤ 3072) (hi : i + 6 ≤ L) (hT : T ≤ 100000) (hst : lw_St hC hR D (fun q => s.heap.size ≤ q) c1 ads T T ws H) (hS : va_S (fun q => s.heap.size ≤ q) s.heap H locs) (h0 : ls[0]? = some (.val (.ref b))) (h1 : ls[1]? = some (.val (.ref bx))) (h2 : ls[2]? = some (.val (.ref bm))) (h3 : ls[3]? = some (.val (.int (ev_i i)))) (hsz : ls.size = 4) (hbx : ads[0]? = some bx) (hbm : ads[83]? = some bm) (hr1 : cells ≤ 600000) (hr2 : slots ≤ 7302250) (hend : ∀ (ws1 : va_W) (H1 : Heap) (locs1 : List Loc) (T1 : Nat), T1 ≤ 100000 → lw_St hC hR D (fun q => s.heap.size ≤ q) c1 ads T1 T1 ws1 H1 → va_S (fun q => s.heap.size ≤ q) s.heap H1 locs1 → W p l e room_1 s m #[Value.ref b] below meth c H1 locs1 cells slots Q (F0 m 1136 ls [])) (hcc : lw_cC l hC hN EC 134 []) : W p l e room_1 s m #[Value.ref b] below meth c H locs cells slots Q (F0 m 475 ls []) := by
  obtain ⟨hx, hb, -⟩ := id hcx
  refine lv_aload_n hx hb dl_475 rfl h1 ?_
  refine lw_callC (As := []) (rest := []) hcx hf1 lwk_476 dl_476 hcc hT hst hS (fun r => trivial) hbx rfl hsz (by show 0 ≤ 4; omega) hr1 hr2 fun ws1 H1 locs1 x1 hst1 hS1 => ?_
  refine lv_pop hx hb dl_479 rfl ?_
  refine lv_aload_n hx hb dl_480 rfl h2 ?_
  refine lw_callX (P := fun _ T3 => T3 = T) (as := []) (As := []) (rest := []) (Dd := 2) hcx hf2 lwk_481 dl_481 (by omega) (lw_hcU hen hf2 (Or.inr rfl)) hst1 hS1 trivial hbm rfl hsz (by show 0 ≤ 4; omega) hr1 hr2 fun ws2 H2 locs2 z2 T4 hP2 hst2 hS2 => ?_
  subst hP2
  refine lv_pop hx hb dl_484 rfl ?_
  exact lv_goto (tgt := 1136) hx hb dl_485 (by omega) (hend ws2 H2 locs2 _ hT hst2 hS2)
theorem lwk_489 : ev_ok1 e2_MT R_law false none 489 (.invokevirtual 66) 3 135 0 0 9 [4164, 4167, 1001, 4165, 4166] = true := by decide +kernel
theorem lwk_494 : ev_ok1 e2_MT R_law false none 494 (.invokevirtual 69) 3 249 0 0 10 [8052, 8055, 1012, 8053, 8054] = true := by decide +kernel
theorem lwc_readings (hen : en_ok) (hcx : lw_cx p s m c b L xs D (lw_no c1)) (hf1 : lw_F1 hC hN EC) (hf2 : lw_F2 hB hR hM ER) {ads : List Nat} {ws : va_W} {H : Heap} {locs : List Loc} {ls : Array Slot} {bx bm i T cells slots : Nat} (hL : L ≤ 3072) (hi : i + 6 ≤ L) (hT : T ≤ 100000) (hst : lw_St hC hR D (fun q => s.heap.size ≤ q) c1 ads T T ws H) (hS : va_S (fun q => s.heap.size ≤ q) s.heap H locs) (h0 : ls[0]? = some (.val (.ref b))) (h1 : ls[1]? = some (.val (.ref bx))) (h2 : ls[2]? = some (.val (.ref bm))) (h3 : ls[3]? = some (.val (.int (ev_i i)))) (hsz : ls.size = 4) (hbx : ads[0]? = some bx) (hbm : ads[83]? = some bm) (hr1 : cells ≤ 600000) (hr2 : slots ≤ 7302250) (hend : ∀ (ws1 : va_W) (H1 : Heap) (locs1 : List Loc) (T1 : Nat), T1 ≤ 100000 → lw_St hC hR D (fun q => s.heap.size ≤ q) c1 ads T1 T1 ws1 H1 → va_S (fun q => s.heap.size ≤ q) s.heap H1 locs1 → W p l e room_1 s m #[Value.ref b] below meth c H1 locs1 cells slots Q (F0 m 1136 ls [])) (hcc : lw_cC l hC hN EC 135 []) (hcr : lw_cR l hR hM ER 249 []) : W p l e room_1 s m #[Value.ref b] below meth c H locs cells slots Q (F0 m 488 ls []) := by
  obtain ⟨hx, hb, -⟩ := id hcx
  refine lv_aload_n hx hb dl_488 rfl h1 ?_
  refine lw_callC (As := []) (rest := []) hcx hf1 lwk_489 dl_489 hcc hT hst hS (fun r => trivial) hbx rfl hsz (by show 0 ≤ 4; omega) hr1 hr2 fun ws1 H1 locs1 x1 hst1 hS1 => ?_
  refine lv_pop hx hb dl_492 rfl ?_
  refine lv_aload_n hx hb dl_493 rfl h2 ?_
  refine lw_callR (As := []) (rest := []) hcx hf2 lwk_494 dl_494 hcr hT hst1 hS1 (fun r => trivial) hbm rfl hsz (by show 0 ≤ 4; omega) hr1 hr2 fun ws2 H2 locs2 x2 hst2 hS2 => ?_
  refine lv_pop hx hb dl_497 rfl ?_
  exact lv_goto (tgt := 1136) hx hb dl_498 (by omega) (hend ws2 H2 locs2 _ hT hst2 hS2)
theorem lwk_502 : ev_ok1 e2_MT R_law false none 502 (.invokevirtual 70) 3 136 0 0 9 [4168, 4171, 1001, 4169, 4170] = true := by decide +kernel
theorem lwk_507 : ev_ok1 e2_MT R_law false none 507 (.invokevirtual 73) 3 251 0 0 10 [8064, 8067, 1012, 8065, 8066] = true := by decide +kernel
theorem lwc_taken (hen : en_ok) (hcx : lw_cx p s m c b L xs D (lw_no c1)) (hf1 : lw_F1 hC hN EC) (hf2 : lw_F2 hB hR hM ER) {ads : List Nat} {ws : va_W} {H : Heap} {locs : List Loc} {ls : Array Slot} {bx bm i T cells slots : Nat} (hL : L ≤ 3072) (hi : i + 6 ≤ L) (hT : T ≤ 100000) (hst : lw_St hC hR D (fun q => s.heap.size ≤ q) c1 ads T T ws H) (hS : va_S (fun q => s.heap.size ≤ q) s.heap H locs) (h0 : ls[0]? = some (.val (.ref b))) (h1 : ls[1]? = some (.val (.ref bx))) (h2 : ls[2]? = some (.val (.ref bm))) (h3 : ls[3]? = some (.val (.int (ev_i i)))) (hsz : ls.size = 4) (hbx : ads[0]? = some bx) (hbm : ads[83]? = some bm) (hr1 : cells ≤ 600000) (hr2 : slots ≤ 7302250) (hend : ∀ (ws1 : va_W) (H1 : Heap) (locs1 : List Loc) (T1 : Nat), T1 ≤ 100000 → lw_St hC hR D (fun q => s.heap.size ≤ q) c1 ads T1 T1 ws1 H1 → va_S (fun q => s.heap.size ≤ q) s.heap H1 locs1 → W p l e room_1 s m #[Value.ref b] below meth c H1 locs1 cells slots Q (F0 m 1136 ls [])) (hcc : lw_cC l hC hN EC 136 []) (hcr : lw_cR l hR hM ER 251 []) : W p l e room_1 s m #[Value.ref b] below meth c H locs cells slots Q (F0 m 501 ls []) := by
  obtain ⟨hx, hb, -⟩ := id hcx
  refine lv_aload_n hx hb dl_501 rfl h1 ?_
  refine lw_callC (As := []) (rest := []) hcx hf1 lwk_502 dl_502 hcc hT hst hS (fun r => trivial) hbx rfl hsz (by show 0 ≤ 4; omega) hr1 hr2 fun ws1 H1 locs1 x1 hst1 hS1 => ?_
  refine lv_pop hx hb dl_505 rfl ?_
  refine lv_aload_n hx hb dl_506 rfl h2 ?_
  refine lw_callR (As := []) (rest := []) hcx hf2 lwk_507 dl_507 hcr hT hst1 hS1 (fun r => trivial) hbm rfl hsz (by show 0 ≤ 4; omega) hr1 hr2 fun ws2 H2 locs2 x2 hst2 hS2 => ?_
  refine lv_pop hx hb dl_510 rfl ?_
  exact lv_goto (tgt := 1136) hx hb dl_511 (by omega) (hend ws2 H2 locs2 _ hT hst2 hS2)
theorem lwk_515 : ev_ok1 e2_MT R_law false none 515 (.invokevirtual 74) 3 137 0 0 9 [4176, 4179, 1001, 4177, 4178] = true := by decide +kernel
theorem lwk_520 : ev_ok1 e2_MT R_law false none 520 (.invokevirtual 77) 3 252 0 0 10 [8068, 8071, 1012, 8069, 8070] = true := by decide +kernel
theorem lwc_weight (hen : en_ok) (hcx : lw_cx p s m c b L xs D (lw_no c1)) (hf1 : lw_F1 hC hN EC) (hf2 : lw_F2 hB hR hM ER) {ads : List Nat} {ws : va_W} {H : Heap} {locs : List Loc} {ls : Array Slot} {bx bm i T cells slots : Nat} (hL : L ≤ 3072) (hi : i + 6 ≤ L) (hT : T ≤ 100000) (hst : lw_St hC hR D (fun q => s.heap.size ≤ q) c1 ads T T ws H) (hS : va_S (fun q => s.heap.size ≤ q) s.heap H locs) (h0 : ls[0]? = some (.val (.ref b))) (h1 : ls[1]? = some (.val (.ref bx))) (h2 : ls[2]? = some (.val (.ref bm))) (h3 : ls[3]? = some (.val (.int (ev_i i)))) (hsz : ls.size = 4) (hbx : ads[0]? = some bx) (hbm : ads[83]? = some bm) (hr1 : cells ≤ 600000) (hr2 : slots ≤ 7302250) (hend : ∀ (ws1 : va_W) (H1 : Heap) (locs1 : List Loc) (T1 : Nat), T1 ≤ 100000 → lw_St hC hR D (fun q => s.heap.size ≤ q) c1 ads T1 T1 ws1 H1 → va_S (fun q => s.heap.size ≤ q) s.heap H1 locs1 → W p l e room_1 s m #[Value.ref b] below meth c H1 locs1 cells slots Q (F0 m 1136 ls [])) (hcc : lw_cC l hC hN EC 137 []) (hcr : lw_cR l hR hM ER 252 []) : W p l e room_1 s m #[Value.ref b] below meth c H locs cells slots Q (F0 m 514 ls []) := by
  obtain ⟨hx, hb, -⟩ := id hcx
  refine lv_aload_n hx hb dl_514 rfl h1 ?_
  refine lw_callC (As := []) (rest := []) hcx hf1 lwk_515 dl_515 hcc hT hst hS (fun r => trivial) hbx rfl hsz (by show 0 ≤ 4; omega) hr1 hr2 fun ws1 H1 locs1 x1 hst1 hS1 => ?_
  refine lv_pop hx hb dl_518 rfl ?_
  refine lv_aload_n hx hb dl_519 rfl h2 ?_
  refine lw_callR (As := []) (rest := []) hcx hf2 lwk_520 dl_520 hcr hT hst1 hS1 (fun r => trivial) hbm rfl hsz (by show 0 ≤ 4; omega) hr1 hr2 fun ws2 H2 locs2 x2 hst2 hS2 => ?_
  refine lv_pop hx hb dl_523 rfl ?_
  exact lv_goto (tgt := 1136) hx hb dl_524 (by omega) (hend ws2 H2 locs2 _ hT hst2 hS2)
theorem lwk_533 : ev_ok1 e2_MT R_law false none 533 (.invokevirtual 78) 3 138 1 0 9 [4184, 4187, 1001, 4185, 4186] = true := by decide +kernel
theorem lwk_543 : ev_ok1 e2_MT R_law false none 543 (.invokevirtual 81) 3 253 1 0 10 [8072, 8075, 1012, 8073, 8074] = true := by decide +kernel
theorem lwc_does (hen : en_ok) (hcx : lw_cx p s m c b L xs D (lw_no c1)) (hf1 : lw_F1 hC hN EC) (hf2 : lw_F2 hB hR hM ER) {ads : List Nat} {ws : va_W} {H : Heap} {locs : List Loc} {ls : Array Slot} {bx bm i T cells slots : Nat} (hL : L ≤ 3072) (hi : i + 6 ≤ L) (hT : T ≤ 100000) (hst : lw_St hC hR D (fun q => s.heap.size ≤ q) c1 ads T T ws H) (hS : va_S (fun q => s.heap.size ≤ q) s.heap H locs) (h0 : ls[0]? = some (.val (.ref b))) (h1 : ls[1]? = some (.val (.ref bx))) (h2 : ls[2]? = some (.val (.ref bm))) (h3 : ls[3]? = some (.val (.int (ev_i i)))) (hsz : ls.size = 4) (hbx : ads[0]? = some bx) (hbm : ads[83]? = some bm) (hr1 : cells ≤ 600000) (hr2 : slots ≤ 7302250) (hend : ∀ (ws1 : va_W) (H1 : Heap) (locs1 : List Loc) (T1 : Nat), T1 ≤ 100000 → lw_St hC hR D (fun q => s.heap.size ≤ q) c1 ads T1 T1 ws1 H1 → va_S (fun q => s.heap.size ≤ q) s.heap H1 locs1 → W p l e room_1 s m #[Value.ref b] below meth c H1 locs1 cells slots Q (F0 m 1136 ls [])) (hcc : lw_cC l hC hN EC 138 [(11, 0, 4294967295)]) (hcr : lw_cR l hR hM ER 253 [(11, 0, 4294967295)]) : W p l e room_1 s m #[Value.ref b] below meth c H locs cells slots Q (F0 m 527 ls []) := by
  obtain ⟨hx, hb, -⟩ := id hcx
  refine lv_aload_n hx hb dl_527 rfl h1 ?_
  refine lw_arg hcx hS h0 h3 (k := 1) (by omega) (by omega) hL dl_528 dl_529 dl_530 dl_531 dl_532 ?_
  refine lw_callC (As := [.int (xs (i + 1))]) (rest := []) hcx hf1 lwk_533 dl_533 hcc hT hst hS (fun r => ⟨lw_relT _, lw_n7, trivial⟩) hbx rfl hsz (by show 0 ≤ 4; omega) hr1 hr2 fun ws1 H1 locs1 x1 hst1 hS1 => ?_
  refine lv_pop hx hb dl_536 rfl ?_
  refine lv_aload_n hx hb dl_537 rfl h2 ?_
  refine lw_arg hcx hS1 h0 h3 (k := 1) (by omega) (by omega) hL dl_538 dl_539 dl_540 dl_541 dl_542 ?_
  refine lw_callR (As := [.int (xs (i + 1))]) (rest := []) hcx hf2 lwk_543 dl_543 hcr hT hst1 hS1 (fun r => ⟨lw_relT _, lw_n7, trivial⟩) hbm rfl hsz (by show 0 ≤ 4; omega) hr1 hr2 fun ws2 H2 locs2 x2 hst2 hS2 => ?_
  refine lv_pop hx hb dl_546 rfl ?_
  exact lv_goto (tgt := 1136) hx hb dl_547 (by omega) (hend ws2 H2 locs2 _ hT hst2 hS2)
theorem lwk_561 : ev_ok1 e2_MT R_law false none 561 (.invokevirtual 82) 3 139 2 0 9 [4192, 4195, 1001, 4193, 4194] = true := by decide +kernel
theorem lwk_576 : ev_ok1 e2_MT R_law false none 576 (.invokevirtual 85) 3 256 2 0 10 [8080, 8083, 1012, 8081, 8082] = true := by decide +kernel
theorem lwc_will (hen : en_ok) (hcx : lw_cx p s m c b L xs D (lw_no c1)) (hf1 : lw_F1 hC hN EC) (hf2 : lw_F2 hB hR hM ER) {ads : List Nat} {ws : va_W} {H : Heap} {locs : List Loc} {ls : Array Slot} {bx bm i T cells slots : Nat} (hL : L ≤ 3072) (hi : i + 6 ≤ L) (hT : T ≤ 100000) (hst : lw_St hC hR D (fun q => s.heap.size ≤ q) c1 ads T T ws H) (hS : va_S (fun q => s.heap.size ≤ q) s.heap H locs) (h0 : ls[0]? = some (.val (.ref b))) (h1 : ls[1]? = some (.val (.ref bx))) (h2 : ls[2]? = some (.val (.ref bm))) (h3 : ls[3]? = some (.val (.int (ev_i i)))) (hsz : ls.size = 4) (hbx : ads[0]? = some bx) (hbm : ads[83]? = some bm) (hr1 : cells ≤ 600000) (hr2 : slots ≤ 7302250) (hend : ∀ (ws1 : va_W) (H1 : Heap) (locs1 : List Loc) (T1 : Nat), T1 ≤ 100000 → lw_St hC hR D (fun q => s.heap.size ≤ q) c1 ads T1 T1 ws1 H1 → va_S (fun q => s.heap.size ≤ q) s.heap H1 locs1 → W p l e room_1 s m #[Value.ref b] below meth c H1 locs1 cells slots Q (F0 m 1136 ls [])) (hcc : lw_cC l hC hN EC 139 [(11, 0, 4294967295), (11, 0, 4294967295)]) (hcr : lw_cR l hR hM ER 256 [(11, 0, 4294967295), (11, 0, 4294967295)]) : W p l e room_1 s m #[Value.ref b] below meth c H locs cells slots Q (F0 m 550 ls []) := by
  obtain ⟨hx, hb, -⟩ := id hcx
  refine lv_aload_n hx hb dl_550 rfl h1 ?_
  refine lw_arg hcx hS h0 h3 (k := 1) (by omega) (by omega) hL dl_551 dl_552 dl_553 dl_554 dl_555 ?_
  refine lw_arg hcx hS h0 h3 (k := 2) (by omega) (by omega) hL dl_556 dl_557 dl_558 dl_559 dl_560 ?_
  refine lw_callC (As := [.int (xs (i + 1)), .int (xs (i + 2))]) (rest := []) hcx hf1 lwk_561 dl_561 hcc hT hst hS (fun r => ⟨lw_relT _, lw_n7, lw_relT _, lw_n7, trivial⟩) hbx rfl hsz (by show 0 ≤ 4; omega) hr1 hr2 fun ws1 H1 locs1 x1 hst1 hS1 => ?_
  refine lv_pop hx hb dl_564 rfl ?_
  refine lv_aload_n hx hb dl_565 rfl h2 ?_
  refine lw_arg hcx hS1 h0 h3 (k := 1) (by omega) (by omega) hL dl_566 dl_567 dl_568 dl_569 dl_570 ?_
  refine lw_arg hcx hS1 h0 h3 (k := 2) (by omega) (by omega) hL dl_571 dl_572 dl_573 dl_574 dl_575 ?_
  refine lw_callR (As := [.int (xs (i + 1)), .int (xs (i + 2))]) (rest := []) hcx hf2 lwk_576 dl_576 hcr hT hst1 hS1 (fun r => ⟨lw_relT _, lw_n7, lw_relT _, lw_n7, trivial⟩) hbm rfl hsz (by show 0 ≤ 4; omega) hr1 hr2 fun ws2 H2 locs2 x2 hst2 hS2 => ?_
  refine lv_pop hx hb dl_579 rfl ?_
  exact lv_goto (tgt := 1136) hx hb dl_580 (by omega) (hend ws2 H2 locs2 _ hT hst2 hS2)
theorem lwk_589 : ev_ok1 e2_MT R_law false none 589 (.invokevirtual 86) 3 140 1 0 9 [4204, 4207, 1001, 4205, 4206] = true := by decide +kernel
theorem lwk_599 : ev_ok1 e2_MT R_law false none 599 (.invokevirtual 89) 3 257 1 0 10 [8092, 8095, 1012, 8093, 8094] = true := by decide +kernel
theorem lwc_field (hen : en_ok) (hcx : lw_cx p s m c b L xs D (lw_no c1)) (hf1 : lw_F1 hC hN EC) (hf2 : lw_F2 hB hR hM ER) {ads : List Nat} {ws : va_W} {H : Heap} {locs : List Loc} {ls : Array Slot} {bx bm i T cells slots : Nat} (hL : L ≤ 3072) (hi : i + 6 ≤ L) (hT : T ≤ 100000) (hst : lw_St hC hR D (fun q => s.heap.size ≤ q) c1 ads T T ws H) (hS : va_S (fun q => s.heap.size ≤ q) s.heap H locs) (h0 : ls[0]? = some (.val (.ref b))) (h1 : ls[1]? = some (.val (.ref bx))) (h2 : ls[2]? = some (.val (.ref bm))) (h3 : ls[3]? = some (.val (.int (ev_i i)))) (hsz : ls.size = 4) (hbx : ads[0]? = some bx) (hbm : ads[83]? = some bm) (hr1 : cells ≤ 600000) (hr2 : slots ≤ 7302250) (hend : ∀ (ws1 : va_W) (H1 : Heap) (locs1 : List Loc) (T1 : Nat), T1 ≤ 100000 → lw_St hC hR D (fun q => s.heap.size ≤ q) c1 ads T1 T1 ws1 H1 → va_S (fun q => s.heap.size ≤ q) s.heap H1 locs1 → W p l e room_1 s m #[Value.ref b] below meth c H1 locs1 cells slots Q (F0 m 1136 ls [])) (hcc : lw_cC l hC hN EC 140 [(11, 0, 4294967295)]) (hcr : lw_cR l hR hM ER 257 [(11, 0, 4294967295)]) : W p l e room_1 s m #[Value.ref b] below meth c H locs cells slots Q (F0 m 583 ls []) := by
  obtain ⟨hx, hb, -⟩ := id hcx
  refine lv_aload_n hx hb dl_583 rfl h1 ?_
  refine lw_arg hcx hS h0 h3 (k := 1) (by omega) (by omega) hL dl_584 dl_585 dl_586 dl_587 dl_588 ?_
  refine lw_callC (As := [.int (xs (i + 1))]) (rest := []) hcx hf1 lwk_589 dl_589 hcc hT hst hS (fun r => ⟨lw_relT _, lw_n7, trivial⟩) hbx rfl hsz (by show 0 ≤ 4; omega) hr1 hr2 fun ws1 H1 locs1 x1 hst1 hS1 => ?_
  refine lv_pop hx hb dl_592 rfl ?_
  refine lv_aload_n hx hb dl_593 rfl h2 ?_
  refine lw_arg hcx hS1 h0 h3 (k := 1) (by omega) (by omega) hL dl_594 dl_595 dl_596 dl_597 dl_598 ?_
  refine lw_callR (As := [.int (xs (i + 1))]) (rest := []) hcx hf2 lwk_599 dl_599 hcr hT hst1 hS1 (fun r => ⟨lw_relT _, lw_n7, trivial⟩) hbm rfl hsz (by show 0 ≤ 4; omega) hr1 hr2 fun ws2 H2 locs2 x2 hst2 hS2 => ?_
  refine lv_pop hx hb dl_602 rfl ?_
  exact lv_goto (tgt := 1136) hx hb dl_603 (by omega) (hend ws2 H2 locs2 _ hT hst2 hS2)
theorem lwk_607 : ev_ok1 e2_MT R_law false none 607 (.invokevirtual 90) 3 141 0 0 9 [4208, 4211, 1001, 4209, 4210] = true := by decide +kernel
theorem lwk_612 : ev_ok1 e2_MT R_law false none 612 (.invokevirtual 93) 3 258 0 0 10 [8096, 8099, 1012, 8097, 8098] = true := by decide +kernel
theorem lwc_harm (hen : en_ok) (hcx : lw_cx p s m c b L xs D (lw_no c1)) (hf1 : lw_F1 hC hN EC) (hf2 : lw_F2 hB hR hM ER) {ads : List Nat} {ws : va_W} {H : Heap} {locs : List Loc} {ls : Array Slot} {bx bm i T cells slots : Nat} (hL : L ≤ 3072) (hi : i + 6 ≤ L) (hT : T ≤ 100000) (hst : lw_St hC hR D (fun q => s.heap.size ≤ q) c1 ads T T ws H) (hS : va_S (fun q => s.heap.size ≤ q) s.heap H locs) (h0 : ls[0]? = some (.val (.ref b))) (h1 : ls[1]? = some (.val (.ref bx))) (h2 : ls[2]? = some (.val (.ref bm))) (h3 : ls[3]? = some (.val (.int (ev_i i)))) (hsz : ls.size = 4) (hbx : ads[0]? = some bx) (hbm : ads[83]? = some bm) (hr1 : cells ≤ 600000) (hr2 : slots ≤ 7302250) (hend : ∀ (ws1 : va_W) (H1 : Heap) (locs1 : List Loc) (T1 : Nat), T1 ≤ 100000 → lw_St hC hR D (fun q => s.heap.size ≤ q) c1 ads T1 T1 ws1 H1 → va_S (fun q => s.heap.size ≤ q) s.heap H1 locs1 → W p l e room_1 s m #[Value.ref b] below meth c H1 locs1 cells slots Q (F0 m 1136 ls [])) (hcc : lw_cC l hC hN EC 141 []) (hcr : lw_cR l hR hM ER 258 []) : W p l e room_1 s m #[Value.ref b] below meth c H locs cells slots Q (F0 m 606 ls []) := by
  obtain ⟨hx, hb, -⟩ := id hcx
  refine lv_aload_n hx hb dl_606 rfl h1 ?_
  refine lw_callC (As := []) (rest := []) hcx hf1 lwk_607 dl_607 hcc hT hst hS (fun r => trivial) hbx rfl hsz (by show 0 ≤ 4; omega) hr1 hr2 fun ws1 H1 locs1 x1 hst1 hS1 => ?_
  refine lv_pop hx hb dl_610 rfl ?_
  refine lv_aload_n hx hb dl_611 rfl h2 ?_
  refine lw_callR (As := []) (rest := []) hcx hf2 lwk_612 dl_612 hcr hT hst1 hS1 (fun r => trivial) hbm rfl hsz (by show 0 ≤ 4; omega) hr1 hr2 fun ws2 H2 locs2 x2 hst2 hS2 => ?_
  refine lv_pop hx hb dl_615 rfl ?_
  exact lv_goto (tgt := 1136) hx hb dl_616 (by omega) (hend ws2 H2 locs2 _ hT hst2 hS2)
theorem lwk_630 : ev_ok1 e2_MT R_law false none 630 (.invokevirtual 94) 3 142 2 0 9 [4216, 4219, 1001, 4217, 4218] = true := by decide +kernel
theorem lwk_645 : ev_ok1 e2_MT R_law false none 645 (.invokevirtual 97) 3 261 2 0 10 [8104, 8107, 1012, 8105, 8106] = true := by decide +kernel
theorem lwc_turn (hen : en_ok) (hcx : lw_cx p s m c b L xs D (lw_no c1)) (hf1 : lw_F1 hC hN EC) (hf2 : lw_F2 hB hR hM ER) {ads : List Nat} {ws : va_W} {H : Heap} {locs : List Loc} {ls : Array Slot} {bx bm i T cells slots : Nat} (hL : L ≤ 3072) (hi : i + 6 ≤ L) (hT : T ≤ 100000) (hst : lw_St hC hR D (fun q => s.heap.size ≤ q) c1 ads T T ws H) (hS : va_S (fun q => s.heap.size ≤ q) s.heap H locs) (h0 : ls[0]? = some (.val (.ref b))) (h1 : ls[1]? = some (.val (.ref bx))) (h2 : ls[2]? = some (.val (.ref bm))) (h3 : ls[3]? = some (.val (.int (ev_i i)))) (hsz : ls.size = 4) (hbx : ads[0]? = some bx) (hbm : ads[83]? = some bm) (hr1 : cells ≤ 600000) (hr2 : slots ≤ 7302250) (hend : ∀ (ws1 : va_W) (H1 : Heap) (locs1 : List Loc) (T1 : Nat), T1 ≤ 100000 → lw_St hC hR D (fun q => s.heap.size ≤ q) c1 ads T1 T1 ws1 H1 → va_S (fun q => s.heap.size ≤ q) s.heap H1 locs1 → W p l e room_1 s m #[Value.ref b] below meth c H1 locs1 cells slots Q (F0 m 1136 ls [])) (hcc : lw_cC l hC hN EC 142 [(11, 0, 4294967295), (11, 0, 4294967295)]) (hcr : lw_cR l hR hM ER 261 [(11, 0, 4294967295), (11, 0, 4294967295)]) : W p l e room_1 s m #[Value.ref b] below meth c H locs cells slots Q (F0 m 619 ls []) := by
  obtain ⟨hx, hb, -⟩ := id hcx
  refine lv_aload_n hx hb dl_619 rfl h1 ?_
  refine lw_arg hcx hS h0 h3 (k := 1) (by omega) (by omega) hL dl_620 dl_621 dl_622 dl_623 dl_624 ?_
  refine lw_arg hcx hS h0 h3 (k := 2) (by omega) (by omega) hL dl_625 dl_626 dl_627 dl_628 dl_629 ?_
  refine lw_callC (As := [.int (xs (i + 1)), .int (xs (i + 2))]) (rest := []) hcx hf1 lwk_630 dl_630 hcc hT hst hS (fun r => ⟨lw_relT _, lw_n7, lw_relT _, lw_n7, trivial⟩) hbx rfl hsz (by show 0 ≤ 4; omega) hr1 hr2 fun ws1 H1 locs1 x1 hst1 hS1 => ?_
  refine lv_pop hx hb dl_633 rfl ?_
  refine lv_aload_n hx hb dl_634 rfl h2 ?_
  refine lw_arg hcx hS1 h0 h3 (k := 1) (by omega) (by omega) hL dl_635 dl_636 dl_637 dl_638 dl_639 ?_
  refine lw_arg hcx hS1 h0 h3 (k := 2) (by omega) (by omega) hL dl_640 dl_641 dl_642 dl_643 dl_644 ?_
  refine lw_callR (As := [.int (xs (i + 1)), .int (xs (i + 2))]) (rest := []) hcx hf2 lwk_645 dl_645 hcr hT hst1 hS1 (fun r => ⟨lw_relT _, lw_n7, lw_relT _, lw_n7, trivial⟩) hbm rfl hsz (by show 0 ≤ 4; omega) hr1 hr2 fun ws2 H2 locs2 x2 hst2 hS2 => ?_
  refine lv_pop hx hb dl_648 rfl ?_
  exact lv_goto (tgt := 1136) hx hb dl_649 (by omega) (hend ws2 H2 locs2 _ hT hst2 hS2)
theorem lwk_653 : ev_ok1 e2_MT R_law false none 653 (.invokevirtual 98) 3 143 0 0 9 [5010, 5013, 1001, 5011, 5012] = true := by decide +kernel
theorem lwk_658 : ev_ok1 e2_MT R_law false none 658 (.invokevirtual 101) 3 262 0 0 10 [8116, 8119, 1012, 8117, 8118] = true := by decide +kernel
theorem lwc_plain (hen : en_ok) (hcx : lw_cx p s m c b L xs D (lw_no c1)) (hf1 : lw_F1 hC hN EC) (hf2 : lw_F2 hB hR hM ER) {ads : List Nat} {ws : va_W} {H : Heap} {locs : List Loc} {ls : Array Slot} {bx bm i T cells slots : Nat} (hL : L ≤ 3072) (hi : i + 6 ≤ L) (hT : T ≤ 100000) (hst : lw_St hC hR D (fun q => s.heap.size ≤ q) c1 ads T T ws H) (hS : va_S (fun q => s.heap.size ≤ q) s.heap H locs) (h0 : ls[0]? = some (.val (.ref b))) (h1 : ls[1]? = some (.val (.ref bx))) (h2 : ls[2]? = some (.val (.ref bm))) (h3 : ls[3]? = some (.val (.int (ev_i i)))) (hsz : ls.size = 4) (hbx : ads[0]? = some bx) (hbm : ads[83]? = some bm) (hr1 : cells ≤ 600000) (hr2 : slots ≤ 7302250) (hend : ∀ (ws1 : va_W) (H1 : Heap) (locs1 : List Loc) (T1 : Nat), T1 ≤ 100000 → lw_St hC hR D (fun q => s.heap.size ≤ q) c1 ads T1 T1 ws1 H1 → va_S (fun q => s.heap.size ≤ q) s.heap H1 locs1 → W p l e room_1 s m #[Value.ref b] below meth c H1 locs1 cells slots Q (F0 m 1136 ls [])) (hcc : lw_cC l hC hN EC 143 []) (hcr : lw_cR l hR hM ER 262 []) : W p l e room_1 s m #[Value.ref b] below meth c H locs cells slots Q (F0 m 652 ls []) := by
  obtain ⟨hx, hb, -⟩ := id hcx
  refine lv_aload_n hx hb dl_652 rfl h1 ?_
  refine lw_callC (As := []) (rest := []) hcx hf1 lwk_653 dl_653 hcc hT hst hS (fun r => trivial) hbx rfl hsz (by show 0 ≤ 4; omega) hr1 hr2 fun ws1 H1 locs1 x1 hst1 hS1 => ?_
  refine lv_pop hx hb dl_656 rfl ?_
  refine lv_aload_n hx hb dl_657 rfl h2 ?_
  refine lw_callR (As := []) (rest := []) hcx hf2 lwk_658 dl_658 hcr hT hst1 hS1 (fun r => trivial) hbm rfl hsz (by show 0 ≤ 4; omega) hr1 hr2 fun ws2 H2 locs2 x2 hst2 hS2 => ?_
  refine lv_pop hx hb dl_661 rfl ?_
  exact lv_goto (tgt := 1136) hx hb dl_662 (by omega) (hend ws2 H2 locs2 _ hT hst2 hS2)
theorem lwk_671 : ev_ok1 e2_MT R_law false none 671 (.invokevirtual 102) 3 144 1 0 9 [5018, 5021, 1001, 5019, 5020] = true := by decide +kernel
theorem lwk_681 : ev_ok1 e2_MT R_law false none 681 (.invokevirtual 105) 3 263 1 0 10 [8120, 8123, 1012, 8121, 8122] = true := by decide +kernel
theorem lwc_orders (hen : en_ok) (hcx : lw_cx p s m c b L xs D (lw_no c1)) (hf1 : lw_F1 hC hN EC) (hf2 : lw_F2 hB hR hM ER) {ads : List Nat} {ws : va_W} {H : Heap} {locs : List Loc} {ls : Array Slot} {bx bm i T cells slots : Nat} (hL : L ≤ 3072) (hi : i + 6 ≤ L) (hT : T ≤ 100000) (hst : lw_St hC hR D (fun q => s.heap.size ≤ q) c1 ads T T ws H) (hS : va_S (fun q => s.heap.size ≤ q) s.heap H locs) (h0 : ls[0]? = some (.val (.ref b))) (h1 : ls[1]? = some (.val (.ref bx))) (h2 : ls[2]? = some (.val (.ref bm))) (h3 : ls[3]? = some (.val (.int (ev_i i)))) (hsz : ls.size = 4) (hbx : ads[0]? = some bx) (hbm : ads[83]? = some bm) (hr1 : cells ≤ 600000) (hr2 : slots ≤ 7302250) (hend : ∀ (ws1 : va_W) (H1 : Heap) (locs1 : List Loc) (T1 : Nat), T1 ≤ 100000 → lw_St hC hR D (fun q => s.heap.size ≤ q) c1 ads T1 T1 ws1 H1 → va_S (fun q => s.heap.size ≤ q) s.heap H1 locs1 → W p l e room_1 s m #[Value.ref b] below meth c H1 locs1 cells slots Q (F0 m 1136 ls [])) (hcc : lw_cC l hC hN EC 144 [(11, 0, 4294967295)]) : W p l e room_1 s m #[Value.ref b] below meth c H locs cells slots Q (F0 m 665 ls []) := by
  obtain ⟨hx, hb, -⟩ := id hcx
  refine lv_aload_n hx hb dl_665 rfl h1 ?_
  refine lw_arg hcx hS h0 h3 (k := 1) (by omega) (by omega) hL dl_666 dl_667 dl_668 dl_669 dl_670 ?_
  refine lw_callC (As := [.int (xs (i + 1))]) (rest := []) hcx hf1 lwk_671 dl_671 hcc hT hst hS (fun r => ⟨lw_relT _, lw_n7, trivial⟩) hbx rfl hsz (by show 0 ≤ 4; omega) hr1 hr2 fun ws1 H1 locs1 x1 hst1 hS1 => ?_
  refine lv_pop hx hb dl_674 rfl ?_
  refine lv_aload_n hx hb dl_675 rfl h2 ?_
  refine lw_arg hcx hS1 h0 h3 (k := 1) (by omega) (by omega) hL dl_676 dl_677 dl_678 dl_679 dl_680 ?_
  refine lw_callX (P := fun _ T3 => T3 = T) (as := [mw_i (xs (i + 1)).toInt]) (As := [.int (xs (i + 1))]) (rest := []) (Dd := 6) hcx hf2 lwk_681 dl_681 (by omega) (lw_hcO hen hf2 (xs (i + 1))) hst1 hS1 ⟨lw_relI _, (by show (0 : Nat) ≠ 7; decide), trivial⟩ hbm rfl hsz (by show 0 ≤ 4; omega) hr1 hr2 fun ws2 H2 locs2 z2 T4 hP2 hst2 hS2 => ?_
  subst hP2
  refine lv_pop hx hb dl_684 rfl ?_
  exact lv_goto (tgt := 1136) hx hb dl_685 (by omega) (hend ws2 H2 locs2 _ hT hst2 hS2)
theorem lwk_704 : ev_ok1 e2_MT R_law false none 704 (.invokevirtual 106) 3 145 3 0 9 [5055, 5058, 1001, 5056, 5057] = true := by decide +kernel
theorem lwk_724 : ev_ok1 e2_MT R_law false none 724 (.invokevirtual 110) 3 269 3 0 10 [8136, 8139, 1012, 8137, 8138] = true := by decide +kernel
theorem lwc_write (hen : en_ok) (hcx : lw_cx p s m c b L xs D (lw_no c1)) (hf1 : lw_F1 hC hN EC) (hf2 : lw_F2 hB hR hM ER) {ads : List Nat} {ws : va_W} {H : Heap} {locs : List Loc} {ls : Array Slot} {bx bm i T cells slots : Nat} (hL : L ≤ 3072) (hi : i + 6 ≤ L) (hT : T ≤ 100000) (hst : lw_St hC hR D (fun q => s.heap.size ≤ q) c1 ads T T ws H) (hS : va_S (fun q => s.heap.size ≤ q) s.heap H locs) (h0 : ls[0]? = some (.val (.ref b))) (h1 : ls[1]? = some (.val (.ref bx))) (h2 : ls[2]? = some (.val (.ref bm))) (h3 : ls[3]? = some (.val (.int (ev_i i)))) (hsz : ls.size = 4) (hbx : ads[0]? = some bx) (hbm : ads[83]? = some bm) (hr1 : cells ≤ 600000) (hr2 : slots ≤ 7302250) (hend : ∀ (ws1 : va_W) (H1 : Heap) (locs1 : List Loc) (T1 : Nat), T1 ≤ 100000 → lw_St hC hR D (fun q => s.heap.size ≤ q) c1 ads T1 T1 ws1 H1 → va_S (fun q => s.heap.size ≤ q) s.heap H1 locs1 → W p l e room_1 s m #[Value.ref b] below meth c H1 locs1 cells slots Q (F0 m 1136 ls [])) (hcc : lw_cC l hC hN EC 145 [(11, 0, 4294967295), (11, 0, 4294967295), (11, 0, 4294967295)]) (hcr : lw_cR l hR hM ER 269 [(11, 0, 4294967295), (11, 0, 4294967295), (11, 0, 4294967295)]) : W p l e room_1 s m #[Value.ref b] below meth c H locs cells slots Q (F0 m 688 ls []) := by
  obtain ⟨hx, hb, -⟩ := id hcx
  refine lv_aload_n hx hb dl_688 rfl h1 ?_
  refine lw_arg hcx hS h0 h3 (k := 1) (by omega) (by omega) hL dl_689 dl_690 dl_691 dl_692 dl_693 ?_
  refine lw_arg hcx hS h0 h3 (k := 2) (by omega) (by omega) hL dl_694 dl_695 dl_696 dl_697 dl_698 ?_
  refine lw_arg hcx hS h0 h3 (k := 3) (by omega) (by omega) hL dl_699 dl_700 dl_701 dl_702 dl_703 ?_
  refine lw_callC (As := [.int (xs (i + 1)), .int (xs (i + 2)), .int (xs (i + 3))]) (rest := []) hcx hf1 lwk_704 dl_704 hcc hT hst hS (fun r => ⟨lw_relT _, lw_n7, lw_relT _, lw_n7, lw_relT _, lw_n7, trivial⟩) hbx rfl hsz (by show 0 ≤ 4; omega) hr1 hr2 fun ws1 H1 locs1 x1 hst1 hS1 => ?_
  refine lv_pop hx hb dl_707 rfl ?_
  refine lv_aload_n hx hb dl_708 rfl h2 ?_
  refine lw_arg hcx hS1 h0 h3 (k := 1) (by omega) (by omega) hL dl_709 dl_710 dl_711 dl_712 dl_713 ?_
  refine lw_arg hcx hS1 h0 h3 (k := 2) (by omega) (by omega) hL dl_714 dl_715 dl_716 dl_717 dl_718 ?_
  refine lw_arg hcx hS1 h0 h3 (k := 3) (by omega) (by omega) hL dl_719 dl_720 dl_721 dl_722 dl_723 ?_
  refine lw_callR (As := [.int (xs (i + 1)), .int (xs (i + 2)), .int (xs (i + 3))]) (rest := []) hcx hf2 lwk_724 dl_724 hcr hT hst1 hS1 (fun r => ⟨lw_relT _, lw_n7, lw_relT _, lw_n7, lw_relT _, lw_n7, trivial⟩) hbm rfl hsz (by show 0 ≤ 4; omega) hr1 hr2 fun ws2 H2 locs2 x2 hst2 hS2 => ?_
  refine lv_pop hx hb dl_727 rfl ?_
  exact lv_goto (tgt := 1136) hx hb dl_728 (by omega) (hend ws2 H2 locs2 _ hT hst2 hS2)
theorem lwk_732 : ev_ok1 e2_MT R_law false none 732 (.invokevirtual 111) 3 146 0 0 9 [5072, 5075, 1001, 5073, 5074] = true := by decide +kernel
theorem lwk_737 : ev_ok1 e2_MT R_law false none 737 (.invokevirtual 114) 3 270 0 0 10 [8152, 8155, 1012, 8153, 8154] = true := by decide +kernel
theorem lwc_watch (hen : en_ok) (hcx : lw_cx p s m c b L xs D (lw_no c1)) (hf1 : lw_F1 hC hN EC) (hf2 : lw_F2 hB hR hM ER) {ads : List Nat} {ws : va_W} {H : Heap} {locs : List Loc} {ls : Array Slot} {bx bm i T cells slots : Nat} (hL : L ≤ 3072) (hi : i + 6 ≤ L) (hT : T ≤ 100000) (hst : lw_St hC hR D (fun q => s.heap.size ≤ q) c1 ads T T ws H) (hS : va_S (fun q => s.heap.size ≤ q) s.heap H locs) (h0 : ls[0]? = some (.val (.ref b))) (h1 : ls[1]? = some (.val (.ref bx))) (h2 : ls[2]? = some (.val (.ref bm))) (h3 : ls[3]? = some (.val (.int (ev_i i)))) (hsz : ls.size = 4) (hbx : ads[0]? = some bx) (hbm : ads[83]? = some bm) (hr1 : cells ≤ 600000) (hr2 : slots ≤ 7302250) (hend : ∀ (ws1 : va_W) (H1 : Heap) (locs1 : List Loc) (T1 : Nat), T1 ≤ 100000 → lw_St hC hR D (fun q => s.heap.size ≤ q) c1 ads T1 T1 ws1 H1 → va_S (fun q => s.heap.size ≤ q) s.heap H1 locs1 → W p l e room_1 s m #[Value.ref b] below meth c H1 locs1 cells slots Q (F0 m 1136 ls [])) (hcc : lw_cC l hC hN EC 146 []) (hcr : lw_cR l hR hM ER 270 []) : W p l e room_1 s m #[Value.ref b] below meth c H locs cells slots Q (F0 m 731 ls []) := by
  obtain ⟨hx, hb, -⟩ := id hcx
  refine lv_aload_n hx hb dl_731 rfl h1 ?_
  refine lw_callC (As := []) (rest := []) hcx hf1 lwk_732 dl_732 hcc hT hst hS (fun r => trivial) hbx rfl hsz (by show 0 ≤ 4; omega) hr1 hr2 fun ws1 H1 locs1 x1 hst1 hS1 => ?_
  refine lv_pop hx hb dl_735 rfl ?_
  refine lv_aload_n hx hb dl_736 rfl h2 ?_
  refine lw_callR (As := []) (rest := []) hcx hf2 lwk_737 dl_737 hcr hT hst1 hS1 (fun r => trivial) hbm rfl hsz (by show 0 ≤ 4; omega) hr1 hr2 fun ws2 H2 locs2 x2 hst2 hS2 => ?_
  refine lv_pop hx hb dl_740 rfl ?_
  exact lv_goto (tgt := 1136) hx hb dl_741 (by omega) (hend ws2 H2 locs2 _ hT hst2 hS2)
theorem lwk_755 : ev_ok1 e2_MT R_law false none 755 (.invokevirtual 115) 3 147 2 0 9 [5080, 5083, 1001, 5081, 5082] = true := by decide +kernel
theorem lwk_770 : ev_ok1 e2_MT R_law false none 770 (.invokevirtual 118) 3 271 2 0 10 [8156, 8159, 1012, 8157, 8158] = true := by decide +kernel
theorem lwc_cows (hen : en_ok) (hcx : lw_cx p s m c b L xs D (lw_no c1)) (hf1 : lw_F1 hC hN EC) (hf2 : lw_F2 hB hR hM ER) {ads : List Nat} {ws : va_W} {H : Heap} {locs : List Loc} {ls : Array Slot} {bx bm i T cells slots : Nat} (hL : L ≤ 3072) (hi : i + 6 ≤ L) (hT : T ≤ 100000) (hst : lw_St hC hR D (fun q => s.heap.size ≤ q) c1 ads T T ws H) (hS : va_S (fun q => s.heap.size ≤ q) s.heap H locs) (h0 : ls[0]? = some (.val (.ref b))) (h1 : ls[1]? = some (.val (.ref bx))) (h2 : ls[2]? = some (.val (.ref bm))) (h3 : ls[3]? = some (.val (.int (ev_i i)))) (hsz : ls.size = 4) (hbx : ads[0]? = some bx) (hbm : ads[83]? = some bm) (hr1 : cells ≤ 600000) (hr2 : slots ≤ 7302250) (hend : ∀ (ws1 : va_W) (H1 : Heap) (locs1 : List Loc) (T1 : Nat), T1 ≤ 100000 → lw_St hC hR D (fun q => s.heap.size ≤ q) c1 ads T1 T1 ws1 H1 → va_S (fun q => s.heap.size ≤ q) s.heap H1 locs1 → W p l e room_1 s m #[Value.ref b] below meth c H1 locs1 cells slots Q (F0 m 1136 ls [])) (hcc : lw_cC l hC hN EC 147 [(11, 0, 4294967295), (11, 0, 4294967295)]) (hcr : lw_cR l hR hM ER 271 [(11, 0, 4294967295), (11, 0, 4294967295)]) : W p l e room_1 s m #[Value.ref b] below meth c H locs cells slots Q (F0 m 744 ls []) := by
  obtain ⟨hx, hb, -⟩ := id hcx
  refine lv_aload_n hx hb dl_744 rfl h1 ?_
  refine lw_arg hcx hS h0 h3 (k := 1) (by omega) (by omega) hL dl_745 dl_746 dl_747 dl_748 dl_749 ?_
  refine lw_arg hcx hS h0 h3 (k := 2) (by omega) (by omega) hL dl_750 dl_751 dl_752 dl_753 dl_754 ?_
  refine lw_callC (As := [.int (xs (i + 1)), .int (xs (i + 2))]) (rest := []) hcx hf1 lwk_755 dl_755 hcc hT hst hS (fun r => ⟨lw_relT _, lw_n7, lw_relT _, lw_n7, trivial⟩) hbx rfl hsz (by show 0 ≤ 4; omega) hr1 hr2 fun ws1 H1 locs1 x1 hst1 hS1 => ?_
  refine lv_pop hx hb dl_758 rfl ?_
  refine lv_aload_n hx hb dl_759 rfl h2 ?_
  refine lw_arg hcx hS1 h0 h3 (k := 1) (by omega) (by omega) hL dl_760 dl_761 dl_762 dl_763 dl_764 ?_
  refine lw_arg hcx hS1 h0 h3 (k := 2) (by omega) (by omega) hL dl_765 dl_766 dl_767 dl_768 dl_769 ?_
  refine lw_callR (As := [.int (xs (i + 1)), .int (xs (i + 2))]) (rest := []) hcx hf2 lwk_770 dl_770 hcr hT hst1 hS1 (fun r => ⟨lw_relT _, lw_n7, lw_relT _, lw_n7, trivial⟩) hbm rfl hsz (by show 0 ≤ 4; omega) hr1 hr2 fun ws2 H2 locs2 x2 hst2 hS2 => ?_
  refine lv_pop hx hb dl_773 rfl ?_
  exact lv_goto (tgt := 1136) hx hb dl_774 (by omega) (hend ws2 H2 locs2 _ hT hst2 hS2)
theorem lwk_798 : ev_ok1 e2_MT R_law false none 798 (.invokevirtual 119) 3 148 4 0 9 [5092, 5095, 1001, 5093, 5094] = true := by decide +kernel
theorem lwk_823 : ev_ok1 e2_MT R_law false none 823 (.invokevirtual 123) 3 274 4 0 10 [8160, 8163, 1012, 8161, 8162] = true := by decide +kernel
theorem lwc_duel (hen : en_ok) (hcx : lw_cx p s m c b L xs D (lw_no c1)) (hf1 : lw_F1 hC hN EC) (hf2 : lw_F2 hB hR hM ER) {ads : List Nat} {ws : va_W} {H : Heap} {locs : List Loc} {ls : Array Slot} {bx bm i T cells slots : Nat} (hL : L ≤ 3072) (hi : i + 6 ≤ L) (hT : T ≤ 100000) (hst : lw_St hC hR D (fun q => s.heap.size ≤ q) c1 ads T T ws H) (hS : va_S (fun q => s.heap.size ≤ q) s.heap H locs) (h0 : ls[0]? = some (.val (.ref b))) (h1 : ls[1]? = some (.val (.ref bx))) (h2 : ls[2]? = some (.val (.ref bm))) (h3 : ls[3]? = some (.val (.int (ev_i i)))) (hsz : ls.size = 4) (hbx : ads[0]? = some bx) (hbm : ads[83]? = some bm) (hr1 : cells ≤ 600000) (hr2 : slots ≤ 7302250) (hend : ∀ (ws1 : va_W) (H1 : Heap) (locs1 : List Loc) (T1 : Nat), T1 ≤ 100000 → lw_St hC hR D (fun q => s.heap.size ≤ q) c1 ads T1 T1 ws1 H1 → va_S (fun q => s.heap.size ≤ q) s.heap H1 locs1 → W p l e room_1 s m #[Value.ref b] below meth c H1 locs1 cells slots Q (F0 m 1136 ls [])) (hcc : lw_cC l hC hN EC 148 [(11, 0, 4294967295), (11, 0, 4294967295), (11, 0, 4294967295), (11, 0, 4294967295)]) (hcr : lw_cR l hR hM ER 274 [(11, 0, 4294967295), (11, 0, 4294967295), (11, 0, 4294967295), (11, 0, 4294967295)]) : W p l e room_1 s m #[Value.ref b] below meth c H locs cells slots Q (F0 m 777 ls []) := by
  obtain ⟨hx, hb, -⟩ := id hcx
  refine lv_aload_n hx hb dl_777 rfl h1 ?_
  refine lw_arg hcx hS h0 h3 (k := 1) (by omega) (by omega) hL dl_778 dl_779 dl_780 dl_781 dl_782 ?_
  refine lw_arg hcx hS h0 h3 (k := 2) (by omega) (by omega) hL dl_783 dl_784 dl_785 dl_786 dl_787 ?_
  refine lw_arg hcx hS h0 h3 (k := 3) (by omega) (by omega) hL dl_788 dl_789 dl_790 dl_791 dl_792 ?_
  refine lw_arg hcx hS h0 h3 (k := 4) (by omega) (by omega) hL dl_793 dl_794 dl_795 dl_796 dl_797 ?_
  refine lw_callC (As := [.int (xs (i + 1)), .int (xs (i + 2)), .int (xs (i + 3)), .int (xs (i + 4))]) (rest := []) hcx hf1 lwk_798 dl_798 hcc hT hst hS (fun r => ⟨lw_relT _, lw_n7, lw_relT _, lw_n7, lw_relT _, lw_n7, lw_relT _, lw_n7, trivial⟩) hbx rfl hsz (by show 0 ≤ 4; omega) hr1 hr2 fun ws1 H1 locs1 x1 hst1 hS1 => ?_
  refine lv_pop hx hb dl_801 rfl ?_
  refine lv_aload_n hx hb dl_802 rfl h2 ?_
  refine lw_arg hcx hS1 h0 h3 (k := 1) (by omega) (by omega) hL dl_803 dl_804 dl_805 dl_806 dl_807 ?_
  refine lw_arg hcx hS1 h0 h3 (k := 2) (by omega) (by omega) hL dl_808 dl_809 dl_810 dl_811 dl_812 ?_
  refine lw_arg hcx hS1 h0 h3 (k := 3) (by omega) (by omega) hL dl_813 dl_814 dl_815 dl_816 dl_817 ?_
  refine lw_arg hcx hS1 h0 h3 (k := 4) (by omega) (by omega) hL dl_818 dl_819 dl_820 dl_821 dl_822 ?_
  refine lw_callR (As := [.int (xs (i + 1)), .int (xs (i + 2)), .int (xs (i + 3)), .int (xs (i + 4))]) (rest := []) hcx hf2 lwk_823 dl_823 hcr hT hst1 hS1 (fun r => ⟨lw_relT _, lw_n7, lw_relT _, lw_n7, lw_relT _, lw_n7, lw_relT _, lw_n7, trivial⟩) hbm rfl hsz (by show 0 ≤ 4; omega) hr1 hr2 fun ws2 H2 locs2 x2 hst2 hS2 => ?_
  refine lv_pop hx hb dl_826 rfl ?_
  exact lv_goto (tgt := 1136) hx hb dl_827 (by omega) (hend ws2 H2 locs2 _ hT hst2 hS2)
theorem lwk_836 : ev_ok1 e2_MT R_law false none 836 (.invokevirtual 124) 3 149 1 0 9 [5104, 5107, 1001, 5105, 5106] = true := by decide +kernel
theorem lwk_846 : ev_ok1 e2_MT R_law false none 846 (.invokevirtual 127) 3 250 1 0 10 [8060, 8063, 1012, 8061, 8062] = true := by decide +kernel
theorem lwc_lies (hen : en_ok) (hcx : lw_cx p s m c b L xs D (lw_no c1)) (hf1 : lw_F1 hC hN EC) (hf2 : lw_F2 hB hR hM ER) {ads : List Nat} {ws : va_W} {H : Heap} {locs : List Loc} {ls : Array Slot} {bx bm i T cells slots : Nat} (hL : L ≤ 3072) (hi : i + 6 ≤ L) (hT : T ≤ 100000) (hst : lw_St hC hR D (fun q => s.heap.size ≤ q) c1 ads T T ws H) (hS : va_S (fun q => s.heap.size ≤ q) s.heap H locs) (h0 : ls[0]? = some (.val (.ref b))) (h1 : ls[1]? = some (.val (.ref bx))) (h2 : ls[2]? = some (.val (.ref bm))) (h3 : ls[3]? = some (.val (.int (ev_i i)))) (hsz : ls.size = 4) (hbx : ads[0]? = some bx) (hbm : ads[83]? = some bm) (hr1 : cells ≤ 600000) (hr2 : slots ≤ 7302250) (hend : ∀ (ws1 : va_W) (H1 : Heap) (locs1 : List Loc) (T1 : Nat), T1 ≤ 100000 → lw_St hC hR D (fun q => s.heap.size ≤ q) c1 ads T1 T1 ws1 H1 → va_S (fun q => s.heap.size ≤ q) s.heap H1 locs1 → W p l e room_1 s m #[Value.ref b] below meth c H1 locs1 cells slots Q (F0 m 1136 ls [])) (hcc : lw_cC l hC hN EC 149 [(11, 0, 4294967295)]) (hcr : lw_cR l hR hM ER 250 [(11, 0, 4294967295)]) : W p l e room_1 s m #[Value.ref b] below meth c H locs cells slots Q (F0 m 830 ls []) := by
  obtain ⟨hx, hb, -⟩ := id hcx
  refine lv_aload_n hx hb dl_830 rfl h1 ?_
  refine lw_arg hcx hS h0 h3 (k := 1) (by omega) (by omega) hL dl_831 dl_832 dl_833 dl_834 dl_835 ?_
  refine lw_callC (As := [.int (xs (i + 1))]) (rest := []) hcx hf1 lwk_836 dl_836 hcc hT hst hS (fun r => ⟨lw_relT _, lw_n7, trivial⟩) hbx rfl hsz (by show 0 ≤ 4; omega) hr1 hr2 fun ws1 H1 locs1 x1 hst1 hS1 => ?_
  refine lv_pop hx hb dl_839 rfl ?_
  refine lv_aload_n hx hb dl_840 rfl h2 ?_
  refine lw_arg hcx hS1 h0 h3 (k := 1) (by omega) (by omega) hL dl_841 dl_842 dl_843 dl_844 dl_845 ?_
  refine lw_callR (As := [.int (xs (i + 1))]) (rest := []) hcx hf2 lwk_846 dl_846 hcr hT hst1 hS1 (fun r => ⟨lw_relT _, lw_n7, trivial⟩) hbm rfl hsz (by show 0 ≤ 4; omega) hr1 hr2 fun ws2 H2 locs2 x2 hst2 hS2 => ?_
  refine lv_pop hx hb dl_849 rfl ?_
  exact lv_goto (tgt := 1136) hx hb dl_850 (by omega) (hend ws2 H2 locs2 _ hT hst2 hS2)
theorem lwk_882 : ev_ok1 e2_MT R_law false none 882 (.invokevirtual 128) 3 150 4 0 9 [5112, 5115, 1001, 5113, 5114] = true := by decide +kernel
theorem lwk_915 : ev_ok1 e2_MT R_law false none 915 (.invokevirtual 132) 3 278 4 0 10 [8172, 8175, 1012, 8173, 8174] = true := by decide +kernel
theorem lwc_heard (hen : en_ok) (hcx : lw_cx p s m c b L xs D (lw_no c1)) (hf1 : lw_F1 hC hN EC) (hf2 : lw_F2 hB hR hM ER) {ads : List Nat} {ws : va_W} {H : Heap} {locs : List Loc} {ls : Array Slot} {bx bm i T cells slots : Nat} (hL : L ≤ 3072) (hi : i + 6 ≤ L) (hT : T ≤ 100000) (hst : lw_St hC hR D (fun q => s.heap.size ≤ q) c1 ads T T ws H) (hS : va_S (fun q => s.heap.size ≤ q) s.heap H locs) (h0 : ls[0]? = some (.val (.ref b))) (h1 : ls[1]? = some (.val (.ref bx))) (h2 : ls[2]? = some (.val (.ref bm))) (h3 : ls[3]? = some (.val (.int (ev_i i)))) (hsz : ls.size = 4) (hbx : ads[0]? = some bx) (hbm : ads[83]? = some bm) (hr1 : cells ≤ 600000) (hr2 : slots ≤ 7302250) (hend : ∀ (ws1 : va_W) (H1 : Heap) (locs1 : List Loc) (T1 : Nat), T1 ≤ 100000 → lw_St hC hR D (fun q => s.heap.size ≤ q) c1 ads T1 T1 ws1 H1 → va_S (fun q => s.heap.size ≤ q) s.heap H1 locs1 → W p l e room_1 s m #[Value.ref b] below meth c H1 locs1 cells slots Q (F0 m 1136 ls [])) (hcc : lw_cC l hC hN EC 150 [(11, 0, 4294967295), (11, 0, 4294967295), (11, 0, 4294967295), (11, 2147483648, 2147483649)]) (hcr : lw_cR l hR hM ER 278 [(11, 0, 4294967295), (11, 0, 4294967295), (11, 0, 4294967295), (11, 2147483648, 2147483649)]) : W p l e room_1 s m #[Value.ref b] below meth c H locs cells slots Q (F0 m 853 ls []) := by
  obtain ⟨hx, hb, -⟩ := id hcx
  refine lv_aload_n hx hb dl_853 rfl h1 ?_
  refine lw_arg hcx hS h0 h3 (k := 1) (by omega) (by omega) hL dl_854 dl_855 dl_856 dl_857 dl_858 ?_
  refine lw_arg hcx hS h0 h3 (k := 2) (by omega) (by omega) hL dl_859 dl_860 dl_861 dl_862 dl_863 ?_
  refine lw_arg hcx hS h0 h3 (k := 3) (by omega) (by omega) hL dl_864 dl_865 dl_866 dl_867 dl_868 ?_
  refine lw_arg hcx hS h0 h3 (k := 4) (by omega) (by omega) hL dl_869 dl_870 dl_871 dl_872 dl_873 ?_
  refine lw_bool hx hb dl_874 dl_877 dl_878 dl_881 ?_
  refine lw_callC (As := [.int (xs (i + 1)), .int (xs (i + 2)), .int (xs (i + 3)), .int (if xs (i + 4) = 0 then 0 else 1)]) (rest := []) hcx hf1 lwk_882 dl_882 hcc hT hst hS (fun r => ⟨lw_relT _, lw_n7, lw_relT _, lw_n7, lw_relT _, lw_n7, lw_relB _, lw_n7, trivial⟩) hbx rfl hsz (by show 0 ≤ 4; omega) hr1 hr2 fun ws1 H1 locs1 x1 hst1 hS1 => ?_
  refine lv_pop hx hb dl_885 rfl ?_
  refine lv_aload_n hx hb dl_886 rfl h2 ?_
  refine lw_arg hcx hS1 h0 h3 (k := 1) (by omega) (by omega) hL dl_887 dl_888 dl_889 dl_890 dl_891 ?_
  refine lw_arg hcx hS1 h0 h3 (k := 2) (by omega) (by omega) hL dl_892 dl_893 dl_894 dl_895 dl_896 ?_
  refine lw_arg hcx hS1 h0 h3 (k := 3) (by omega) (by omega) hL dl_897 dl_898 dl_899 dl_900 dl_901 ?_
  refine lw_arg hcx hS1 h0 h3 (k := 4) (by omega) (by omega) hL dl_902 dl_903 dl_904 dl_905 dl_906 ?_
  refine lw_bool hx hb dl_907 dl_910 dl_911 dl_914 ?_
  refine lw_callR (As := [.int (xs (i + 1)), .int (xs (i + 2)), .int (xs (i + 3)), .int (if xs (i + 4) = 0 then 0 else 1)]) (rest := []) hcx hf2 lwk_915 dl_915 hcr hT hst1 hS1 (fun r => ⟨lw_relT _, lw_n7, lw_relT _, lw_n7, lw_relT _, lw_n7, lw_relB _, lw_n7, trivial⟩) hbm rfl hsz (by show 0 ≤ 4; omega) hr1 hr2 fun ws2 H2 locs2 x2 hst2 hS2 => ?_
  refine lv_pop hx hb dl_918 rfl ?_
  exact lv_goto (tgt := 1136) hx hb dl_919 (by omega) (hend ws2 H2 locs2 _ hT hst2 hS2)
theorem lwk_928 : ev_ok1 e2_MT R_law false none 928 (.invokevirtual 133) 3 151 1 0 9 [5128, 5131, 1001, 5129, 5130] = true := by decide +kernel
theorem lwk_938 : ev_ok1 e2_MT R_law false none 938 (.invokevirtual 137) 3 279 1 0 10 [8188, 8191, 1012, 8189, 8190] = true := by decide +kernel
theorem lwc_untell (hen : en_ok) (hcx : lw_cx p s m c b L xs D (lw_no c1)) (hf1 : lw_F1 hC hN EC) (hf2 : lw_F2 hB hR hM ER) {ads : List Nat} {ws : va_W} {H : Heap} {locs : List Loc} {ls : Array Slot} {bx bm i T cells slots : Nat} (hL : L ≤ 3072) (hi : i + 6 ≤ L) (hT : T ≤ 100000) (hst : lw_St hC hR D (fun q => s.heap.size ≤ q) c1 ads T T ws H) (hS : va_S (fun q => s.heap.size ≤ q) s.heap H locs) (h0 : ls[0]? = some (.val (.ref b))) (h1 : ls[1]? = some (.val (.ref bx))) (h2 : ls[2]? = some (.val (.ref bm))) (h3 : ls[3]? = some (.val (.int (ev_i i)))) (hsz : ls.size = 4) (hbx : ads[0]? = some bx) (hbm : ads[83]? = some bm) (hr1 : cells ≤ 600000) (hr2 : slots ≤ 7302250) (hend : ∀ (ws1 : va_W) (H1 : Heap) (locs1 : List Loc) (T1 : Nat), T1 ≤ 100000 → lw_St hC hR D (fun q => s.heap.size ≤ q) c1 ads T1 T1 ws1 H1 → va_S (fun q => s.heap.size ≤ q) s.heap H1 locs1 → W p l e room_1 s m #[Value.ref b] below meth c H1 locs1 cells slots Q (F0 m 1136 ls [])) (hcc : lw_cC l hC hN EC 151 [(11, 0, 4294967295)]) (hcr : lw_cR l hR hM ER 279 [(11, 0, 4294967295)]) : W p l e room_1 s m #[Value.ref b] below meth c H locs cells slots Q (F0 m 922 ls []) := by
  obtain ⟨hx, hb, -⟩ := id hcx
  refine lv_aload_n hx hb dl_922 rfl h1 ?_
  refine lw_arg hcx hS h0 h3 (k := 1) (by omega) (by omega) hL dl_923 dl_924 dl_925 dl_926 dl_927 ?_
  refine lw_callC (As := [.int (xs (i + 1))]) (rest := []) hcx hf1 lwk_928 dl_928 hcc hT hst hS (fun r => ⟨lw_relT _, lw_n7, trivial⟩) hbx rfl hsz (by show 0 ≤ 4; omega) hr1 hr2 fun ws1 H1 locs1 x1 hst1 hS1 => ?_
  refine lv_pop hx hb dl_931 rfl ?_
  refine lv_aload_n hx hb dl_932 rfl h2 ?_
  refine lw_arg hcx hS1 h0 h3 (k := 1) (by omega) (by omega) hL dl_933 dl_934 dl_935 dl_936 dl_937 ?_
  refine lw_callR (As := [.int (xs (i + 1))]) (rest := []) hcx hf2 lwk_938 dl_938 hcr hT hst1 hS1 (fun r => ⟨lw_relT _, lw_n7, trivial⟩) hbm rfl hsz (by show 0 ≤ 4; omega) hr1 hr2 fun ws2 H2 locs2 x2 hst2 hS2 => ?_
  refine lv_pop hx hb dl_941 rfl ?_
  exact lv_goto (tgt := 1136) hx hb dl_942 (by omega) (hend ws2 H2 locs2 _ hT hst2 hS2)
theorem lwk_951 : ev_ok1 e2_MT R_law false none 951 (.invokevirtual 138) 3 152 1 0 9 [5136, 5139, 1001, 5137, 5138] = true := by decide +kernel
theorem lwk_960 : ev_ok1 e2_MT R_law false none 960 (.invokevirtual 141) 3 280 1 0 10 [8192, 8195, 1012, 8193, 8194] = true := by decide +kernel
theorem lwc_later (hen : en_ok) (hcx : lw_cx p s m c b L xs D (lw_no c1)) (hf1 : lw_F1 hC hN EC) (hf2 : lw_F2 hB hR hM ER) {ads : List Nat} {ws : va_W} {H : Heap} {locs : List Loc} {ls : Array Slot} {bx bm i T cells slots : Nat} (hL : L ≤ 3072) (hi : i + 6 ≤ L) (hT : T ≤ 100000) (hst : lw_St hC hR D (fun q => s.heap.size ≤ q) c1 ads T T ws H) (hS : va_S (fun q => s.heap.size ≤ q) s.heap H locs) (h0 : ls[0]? = some (.val (.ref b))) (h1 : ls[1]? = some (.val (.ref bx))) (h2 : ls[2]? = some (.val (.ref bm))) (h3 : ls[3]? = some (.val (.int (ev_i i)))) (hsz : ls.size = 4) (hbx : ads[0]? = some bx) (hbm : ads[83]? = some bm) (hr1 : cells ≤ 600000) (hr2 : slots ≤ 7302250) (hend : ∀ (ws1 : va_W) (H1 : Heap) (locs1 : List Loc) (T1 : Nat), T1 ≤ 100000 → lw_St hC hR D (fun q => s.heap.size ≤ q) c1 ads T1 T1 ws1 H1 → va_S (fun q => s.heap.size ≤ q) s.heap H1 locs1 → W p l e room_1 s m #[Value.ref b] below meth c H1 locs1 cells slots Q (F0 m 1136 ls [])) : W p l e room_1 s m #[Value.ref b] below meth c H locs cells slots Q (F0 m 945 ls []) := by
  obtain ⟨hx, hb, -⟩ := id hcx
  refine lv_aload_n hx hb dl_945 rfl h1 ?_
  refine lw_arg hcx hS h0 h3 (k := 1) (by omega) (by omega) hL dl_946 dl_947 dl_948 dl_949 dl_950 ?_
  refine lw_callL (rest := []) (x := xs (i + 1)) hen hcx hf1 lwk_951 dl_951 hT hst hS hbx hsz (by show 0 ≤ 4; omega) hr1 hr2 fun ws1 H1 locs1 z1 T3 hP1 hst1 hS1 => ?_
  refine lv_aload_n hx hb dl_954 rfl h2 ?_
  refine lw_arg hcx hS1 h0 h3 (k := 1) (by omega) (by omega) hL dl_955 dl_956 dl_957 dl_958 dl_959 ?_
  refine lw_callX (P := lw_PL T (xs (i + 1)).toInt) (as := [mw_i (xs (i + 1)).toInt]) (As := [.int (xs (i + 1))]) (rest := [.int (Int32.ofInt z1)]) (Dd := 2) hcx hf2 lwk_960 dl_960 (by omega) (lw_hcL hen hf2 hT (xs (i + 1))) hst1 hS1 ⟨lw_relI _, (by show (0 : Nat) ≠ 7; decide), trivial⟩ hbm rfl hsz (by show 1 ≤ 4; omega) hr1 hr2 fun ws2 H2 locs2 z2 T4 hP2 hst2 hS2 => ?_
  obtain ⟨e1, e2⟩ := hP1.un hP2
  subst e1
  subst e2
  exact lv_icmp_eq (tgt := 1136) hx hb dl_963 (by decide) (fun _ => hend ws2 H2 locs2 T3 (hP1.le hT) hst2 hS2) (fun z => absurd rfl z)
theorem lwk_974 : ev_ok1 e2_MT R_law false none 974 (.invokevirtual 142) 3 153 1 0 9 [5145, 5148, 1001, 5146, 5147] = true := by decide +kernel
theorem lwk_984 : ev_ok1 e2_MT R_law false none 984 (.invokevirtual 145) 3 283 1 0 10 [8197, 8200, 1012, 8198, 8199] = true := by decide +kernel
theorem lwc_fit (hen : en_ok) (hcx : lw_cx p s m c b L xs D (lw_no c1)) (hf1 : lw_F1 hC hN EC) (hf2 : lw_F2 hB hR hM ER) {ads : List Nat} {ws : va_W} {H : Heap} {locs : List Loc} {ls : Array Slot} {bx bm i T cells slots : Nat} (hL : L ≤ 3072) (hi : i + 6 ≤ L) (hT : T ≤ 100000) (hst : lw_St hC hR D (fun q => s.heap.size ≤ q) c1 ads T T ws H) (hS : va_S (fun q => s.heap.size ≤ q) s.heap H locs) (h0 : ls[0]? = some (.val (.ref b))) (h1 : ls[1]? = some (.val (.ref bx))) (h2 : ls[2]? = some (.val (.ref bm))) (h3 : ls[3]? = some (.val (.int (ev_i i)))) (hsz : ls.size = 4) (hbx : ads[0]? = some bx) (hbm : ads[83]? = some bm) (hr1 : cells ≤ 600000) (hr2 : slots ≤ 7302250) (hend : ∀ (ws1 : va_W) (H1 : Heap) (locs1 : List Loc) (T1 : Nat), T1 ≤ 100000 → lw_St hC hR D (fun q => s.heap.size ≤ q) c1 ads T1 T1 ws1 H1 → va_S (fun q => s.heap.size ≤ q) s.heap H1 locs1 → W p l e room_1 s m #[Value.ref b] below meth c H1 locs1 cells slots Q (F0 m 1136 ls [])) (hcc : lw_cC l hC hN EC 153 [(11, 0, 4294967295)]) (hcr : lw_cR l hR hM ER 283 [(11, 0, 4294967295)]) : W p l e room_1 s m #[Value.ref b] below meth c H locs cells slots Q (F0 m 968 ls []) := by
  obtain ⟨hx, hb, -⟩ := id hcx
  refine lv_aload_n hx hb dl_968 rfl h1 ?_
  refine lw_arg hcx hS h0 h3 (k := 1) (by omega) (by omega) hL dl_969 dl_970 dl_971 dl_972 dl_973 ?_
  refine lw_callC (As := [.int (xs (i + 1))]) (rest := []) hcx hf1 lwk_974 dl_974 hcc hT hst hS (fun r => ⟨lw_relT _, lw_n7, trivial⟩) hbx rfl hsz (by show 0 ≤ 4; omega) hr1 hr2 fun ws1 H1 locs1 x1 hst1 hS1 => ?_
  refine lv_pop hx hb dl_977 rfl ?_
  refine lv_aload_n hx hb dl_978 rfl h2 ?_
  refine lw_arg hcx hS1 h0 h3 (k := 1) (by omega) (by omega) hL dl_979 dl_980 dl_981 dl_982 dl_983 ?_
  refine lw_callR (As := [.int (xs (i + 1))]) (rest := []) hcx hf2 lwk_984 dl_984 hcr hT hst1 hS1 (fun r => ⟨lw_relT _, lw_n7, trivial⟩) hbm rfl hsz (by show 0 ≤ 4; omega) hr1 hr2 fun ws2 H2 locs2 x2 hst2 hS2 => ?_
  refine lv_pop hx hb dl_987 rfl ?_
  exact lv_goto (tgt := 1136) hx hb dl_988 (by omega) (hend ws2 H2 locs2 _ hT hst2 hS2)
theorem lwk_1007 : ev_ok1 e2_MT R_law false none 1007 (.invokevirtual 146) 3 154 3 0 9 [5167, 5170, 1001, 5168, 5169] = true := by decide +kernel
theorem lwk_1027 : ev_ok1 e2_MT R_law false none 1027 (.invokevirtual 149) 3 284 3 0 10 [8209, 8212, 1012, 8210, 8211] = true := by decide +kernel
theorem lwc_sure (hen : en_ok) (hcx : lw_cx p s m c b L xs D (lw_no c1)) (hf1 : lw_F1 hC hN EC) (hf2 : lw_F2 hB hR hM ER) {ads : List Nat} {ws : va_W} {H : Heap} {locs : List Loc} {ls : Array Slot} {bx bm i T cells slots : Nat} (hL : L ≤ 3072) (hi : i + 6 ≤ L) (hT : T ≤ 100000) (hst : lw_St hC hR D (fun q => s.heap.size ≤ q) c1 ads T T ws H) (hS : va_S (fun q => s.heap.size ≤ q) s.heap H locs) (h0 : ls[0]? = some (.val (.ref b))) (h1 : ls[1]? = some (.val (.ref bx))) (h2 : ls[2]? = some (.val (.ref bm))) (h3 : ls[3]? = some (.val (.int (ev_i i)))) (hsz : ls.size = 4) (hbx : ads[0]? = some bx) (hbm : ads[83]? = some bm) (hr1 : cells ≤ 600000) (hr2 : slots ≤ 7302250) (hend : ∀ (ws1 : va_W) (H1 : Heap) (locs1 : List Loc) (T1 : Nat), T1 ≤ 100000 → lw_St hC hR D (fun q => s.heap.size ≤ q) c1 ads T1 T1 ws1 H1 → va_S (fun q => s.heap.size ≤ q) s.heap H1 locs1 → W p l e room_1 s m #[Value.ref b] below meth c H1 locs1 cells slots Q (F0 m 1136 ls [])) (hcc : lw_cC l hC hN EC 154 [(11, 0, 4294967295), (11, 0, 4294967295), (11, 0, 4294967295)]) (hcr : lw_cR l hR hM ER 284 [(11, 0, 4294967295), (11, 0, 4294967295), (11, 0, 4294967295)]) : W p l e room_1 s m #[Value.ref b] below meth c H locs cells slots Q (F0 m 991 ls []) := by
  obtain ⟨hx, hb, -⟩ := id hcx
  refine lv_aload_n hx hb dl_991 rfl h1 ?_
  refine lw_arg hcx hS h0 h3 (k := 1) (by omega) (by omega) hL dl_992 dl_993 dl_994 dl_995 dl_996 ?_
  refine lw_arg hcx hS h0 h3 (k := 2) (by omega) (by omega) hL dl_997 dl_998 dl_999 dl_1000 dl_1001 ?_
  refine lw_arg hcx hS h0 h3 (k := 3) (by omega) (by omega) hL dl_1002 dl_1003 dl_1004 dl_1005 dl_1006 ?_
  refine lw_callC (As := [.int (xs (i + 1)), .int (xs (i + 2)), .int (xs (i + 3))]) (rest := []) hcx hf1 lwk_1007 dl_1007 hcc hT hst hS (fun r => ⟨lw_relT _, lw_n7, lw_relT _, lw_n7, lw_relT _, lw_n7, trivial⟩) hbx rfl hsz (by show 0 ≤ 4; omega) hr1 hr2 fun ws1 H1 locs1 x1 hst1 hS1 => ?_
  refine lv_pop hx hb dl_1010 rfl ?_
  refine lv_aload_n hx hb dl_1011 rfl h2 ?_
  refine lw_arg hcx hS1 h0 h3 (k := 1) (by omega) (by omega) hL dl_1012 dl_1013 dl_1014 dl_1015 dl_1016 ?_
  refine lw_arg hcx hS1 h0 h3 (k := 2) (by omega) (by omega) hL dl_1017 dl_1018 dl_1019 dl_1020 dl_1021 ?_
  refine lw_arg hcx hS1 h0 h3 (k := 3) (by omega) (by omega) hL dl_1022 dl_1023 dl_1024 dl_1025 dl_1026 ?_
  refine lw_callR (As := [.int (xs (i + 1)), .int (xs (i + 2)), .int (xs (i + 3))]) (rest := []) hcx hf2 lwk_1027 dl_1027 hcr hT hst1 hS1 (fun r => ⟨lw_relT _, lw_n7, lw_relT _, lw_n7, lw_relT _, lw_n7, trivial⟩) hbm rfl hsz (by show 0 ≤ 4; omega) hr1 hr2 fun ws2 H2 locs2 x2 hst2 hS2 => ?_
  refine lv_pop hx hb dl_1030 rfl ?_
  exact lv_goto (tgt := 1136) hx hb dl_1031 (by omega) (hend ws2 H2 locs2 _ hT hst2 hS2)
theorem lwk_1045 : ev_ok1 e2_MT R_law false none 1045 (.invokevirtual 150) 3 155 2 0 9 [5176, 5179, 1001, 5177, 5178] = true := by decide +kernel
theorem lwk_1060 : ev_ok1 e2_MT R_law false none 1060 (.invokevirtual 153) 3 285 2 0 10 [8213, 8216, 1012, 8214, 8215] = true := by decide +kernel
theorem lwc_ask (hen : en_ok) (hcx : lw_cx p s m c b L xs D (lw_no c1)) (hf1 : lw_F1 hC hN EC) (hf2 : lw_F2 hB hR hM ER) {ads : List Nat} {ws : va_W} {H : Heap} {locs : List Loc} {ls : Array Slot} {bx bm i T cells slots : Nat} (hL : L ≤ 3072) (hi : i + 6 ≤ L) (hT : T ≤ 100000) (hst : lw_St hC hR D (fun q => s.heap.size ≤ q) c1 ads T T ws H) (hS : va_S (fun q => s.heap.size ≤ q) s.heap H locs) (h0 : ls[0]? = some (.val (.ref b))) (h1 : ls[1]? = some (.val (.ref bx))) (h2 : ls[2]? = some (.val (.ref bm))) (h3 : ls[3]? = some (.val (.int (ev_i i)))) (hsz : ls.size = 4) (hbx : ads[0]? = some bx) (hbm : ads[83]? = some bm) (hr1 : cells ≤ 600000) (hr2 : slots ≤ 7302250) (hend : ∀ (ws1 : va_W) (H1 : Heap) (locs1 : List Loc) (T1 : Nat), T1 ≤ 100000 → lw_St hC hR D (fun q => s.heap.size ≤ q) c1 ads T1 T1 ws1 H1 → va_S (fun q => s.heap.size ≤ q) s.heap H1 locs1 → W p l e room_1 s m #[Value.ref b] below meth c H1 locs1 cells slots Q (F0 m 1136 ls [])) (hcc : lw_cC l hC hN EC 155 [(11, 0, 4294967295), (11, 0, 4294967295)]) (hcr : lw_cR l hR hM ER 285 [(11, 0, 4294967295), (11, 0, 4294967295)]) : W p l e room_1 s m #[Value.ref b] below meth c H locs cells slots Q (F0 m 1034 ls []) := by
  obtain ⟨hx, hb, -⟩ := id hcx
  refine lv_aload_n hx hb dl_1034 rfl h1 ?_
  refine lw_arg hcx hS h0 h3 (k := 1) (by omega) (by omega) hL dl_1035 dl_1036 dl_1037 dl_1038 dl_1039 ?_
  refine lw_arg hcx hS h0 h3 (k := 2) (by omega) (by omega) hL dl_1040 dl_1041 dl_1042 dl_1043 dl_1044 ?_
  refine lw_callC (As := [.int (xs (i + 1)), .int (xs (i + 2))]) (rest := []) hcx hf1 lwk_1045 dl_1045 hcc hT hst hS (fun r => ⟨lw_relT _, lw_n7, lw_relT _, lw_n7, trivial⟩) hbx rfl hsz (by show 0 ≤ 4; omega) hr1 hr2 fun ws1 H1 locs1 x1 hst1 hS1 => ?_
  refine lv_pop hx hb dl_1048 rfl ?_
  refine lv_aload_n hx hb dl_1049 rfl h2 ?_
  refine lw_arg hcx hS1 h0 h3 (k := 1) (by omega) (by omega) hL dl_1050 dl_1051 dl_1052 dl_1053 dl_1054 ?_
  refine lw_arg hcx hS1 h0 h3 (k := 2) (by omega) (by omega) hL dl_1055 dl_1056 dl_1057 dl_1058 dl_1059 ?_
  refine lw_callR (As := [.int (xs (i + 1)), .int (xs (i + 2))]) (rest := []) hcx hf2 lwk_1060 dl_1060 hcr hT hst1 hS1 (fun r => ⟨lw_relT _, lw_n7, lw_relT _, lw_n7, trivial⟩) hbm rfl hsz (by show 0 ≤ 4; omega) hr1 hr2 fun ws2 H2 locs2 x2 hst2 hS2 => ?_
  refine lv_pop hx hb dl_1063 rfl ?_
  exact lv_goto (tgt := 1136) hx hb dl_1064 (by omega) (hend ws2 H2 locs2 _ hT hst2 hS2)
theorem lwk_1073 : ev_ok1 e2_MT R_law false none 1073 (.invokevirtual 154) 3 156 1 0 9 [5185, 5188, 1001, 5186, 5187] = true := by decide +kernel
theorem lwk_1083 : ev_ok1 e2_MT R_law false none 1083 (.invokevirtual 157) 3 286 1 0 10 [8217, 8220, 1012, 8218, 8219] = true := by decide +kernel
theorem lwc_image (hen : en_ok) (hcx : lw_cx p s m c b L xs D (lw_no c1)) (hf1 : lw_F1 hC hN EC) (hf2 : lw_F2 hB hR hM ER) {ads : List Nat} {ws : va_W} {H : Heap} {locs : List Loc} {ls : Array Slot} {bx bm i T cells slots : Nat} (hL : L ≤ 3072) (hi : i + 6 ≤ L) (hT : T ≤ 100000) (hst : lw_St hC hR D (fun q => s.heap.size ≤ q) c1 ads T T ws H) (hS : va_S (fun q => s.heap.size ≤ q) s.heap H locs) (h0 : ls[0]? = some (.val (.ref b))) (h1 : ls[1]? = some (.val (.ref bx))) (h2 : ls[2]? = some (.val (.ref bm))) (h3 : ls[3]? = some (.val (.int (ev_i i)))) (hsz : ls.size = 4) (hbx : ads[0]? = some bx) (hbm : ads[83]? = some bm) (hr1 : cells ≤ 600000) (hr2 : slots ≤ 7302250) (hend : ∀ (ws1 : va_W) (H1 : Heap) (locs1 : List Loc) (T1 : Nat), T1 ≤ 100000 → lw_St hC hR D (fun q => s.heap.size ≤ q) c1 ads T1 T1 ws1 H1 → va_S (fun q => s.heap.size ≤ q) s.heap H1 locs1 → W p l e room_1 s m #[Value.ref b] below meth c H1 locs1 cells slots Q (F0 m 1136 ls [])) (hcc : lw_cC l hC hN EC 156 [(11, 0, 4294967295)]) (hcr : lw_cR l hR hM ER 286 [(11, 0, 4294967295)]) : W p l e room_1 s m #[Value.ref b] below meth c H locs cells slots Q (F0 m 1067 ls []) := by
  obtain ⟨hx, hb, -⟩ := id hcx
  refine lv_aload_n hx hb dl_1067 rfl h1 ?_
  refine lw_arg hcx hS h0 h3 (k := 1) (by omega) (by omega) hL dl_1068 dl_1069 dl_1070 dl_1071 dl_1072 ?_
  refine lw_callC (As := [.int (xs (i + 1))]) (rest := []) hcx hf1 lwk_1073 dl_1073 hcc hT hst hS (fun r => ⟨lw_relT _, lw_n7, trivial⟩) hbx rfl hsz (by show 0 ≤ 4; omega) hr1 hr2 fun ws1 H1 locs1 x1 hst1 hS1 => ?_
  refine lv_pop hx hb dl_1076 rfl ?_
  refine lv_aload_n hx hb dl_1077 rfl h2 ?_
  refine lw_arg hcx hS1 h0 h3 (k := 1) (by omega) (by omega) hL dl_1078 dl_1079 dl_1080 dl_1081 dl_1082 ?_
  refine lw_callR (As := [.int (xs (i + 1))]) (rest := []) hcx hf2 lwk_1083 dl_1083 hcr hT hst1 hS1 (fun r => ⟨lw_relT _, lw_n7, trivial⟩) hbm rfl hsz (by show 0 ≤ 4; omega) hr1 hr2 fun ws2 H2 locs2 x2 hst2 hS2 => ?_
  refine lv_pop hx hb dl_1086 rfl ?_
  exact lv_goto (tgt := 1136) hx hb dl_1087 (by omega) (hend ws2 H2 locs2 _ hT hst2 hS2)
theorem lwk_1096 : ev_ok1 e2_MT R_law false none 1096 (.invokevirtual 158) 3 157 1 0 9 [5193, 5196, 1001, 5194, 5195] = true := by decide +kernel
theorem lwk_1106 : ev_ok1 e2_MT R_law false none 1106 (.invokevirtual 161) 3 287 1 0 10 [8221, 8224, 1012, 8222, 8223] = true := by decide +kernel
theorem lwc_back (hen : en_ok) (hcx : lw_cx p s m c b L xs D (lw_no c1)) (hf1 : lw_F1 hC hN EC) (hf2 : lw_F2 hB hR hM ER) {ads : List Nat} {ws : va_W} {H : Heap} {locs : List Loc} {ls : Array Slot} {bx bm i T cells slots : Nat} (hL : L ≤ 3072) (hi : i + 6 ≤ L) (hT : T ≤ 100000) (hst : lw_St hC hR D (fun q => s.heap.size ≤ q) c1 ads T T ws H) (hS : va_S (fun q => s.heap.size ≤ q) s.heap H locs) (h0 : ls[0]? = some (.val (.ref b))) (h1 : ls[1]? = some (.val (.ref bx))) (h2 : ls[2]? = some (.val (.ref bm))) (h3 : ls[3]? = some (.val (.int (ev_i i)))) (hsz : ls.size = 4) (hbx : ads[0]? = some bx) (hbm : ads[83]? = some bm) (hr1 : cells ≤ 600000) (hr2 : slots ≤ 7302250) (hend : ∀ (ws1 : va_W) (H1 : Heap) (locs1 : List Loc) (T1 : Nat), T1 ≤ 100000 → lw_St hC hR D (fun q => s.heap.size ≤ q) c1 ads T1 T1 ws1 H1 → va_S (fun q => s.heap.size ≤ q) s.heap H1 locs1 → W p l e room_1 s m #[Value.ref b] below meth c H1 locs1 cells slots Q (F0 m 1136 ls [])) (hcc : lw_cC l hC hN EC 157 [(11, 0, 4294967295)]) (hcr : lw_cR l hR hM ER 287 [(11, 0, 4294967295)]) : W p l e room_1 s m #[Value.ref b] below meth c H locs cells slots Q (F0 m 1090 ls []) := by
  obtain ⟨hx, hb, -⟩ := id hcx
  refine lv_aload_n hx hb dl_1090 rfl h1 ?_
  refine lw_arg hcx hS h0 h3 (k := 1) (by omega) (by omega) hL dl_1091 dl_1092 dl_1093 dl_1094 dl_1095 ?_
  refine lw_callC (As := [.int (xs (i + 1))]) (rest := []) hcx hf1 lwk_1096 dl_1096 hcc hT hst hS (fun r => ⟨lw_relT _, lw_n7, trivial⟩) hbx rfl hsz (by show 0 ≤ 4; omega) hr1 hr2 fun ws1 H1 locs1 x1 hst1 hS1 => ?_
  refine lv_pop hx hb dl_1099 rfl ?_
  refine lv_aload_n hx hb dl_1100 rfl h2 ?_
  refine lw_arg hcx hS1 h0 h3 (k := 1) (by omega) (by omega) hL dl_1101 dl_1102 dl_1103 dl_1104 dl_1105 ?_
  refine lw_callR (As := [.int (xs (i + 1))]) (rest := []) hcx hf2 lwk_1106 dl_1106 hcr hT hst1 hS1 (fun r => ⟨lw_relT _, lw_n7, trivial⟩) hbm rfl hsz (by show 0 ≤ 4; omega) hr1 hr2 fun ws2 H2 locs2 x2 hst2 hS2 => ?_
  refine lv_pop hx hb dl_1109 rfl ?_
  exact lv_goto (tgt := 1136) hx hb dl_1110 (by omega) (hend ws2 H2 locs2 _ hT hst2 hS2)
theorem lwk_1119 : ev_ok1 e2_MT R_law false none 1119 (.invokevirtual 162) 3 158 1 0 9 [5202, 5205, 1001, 5203, 5204] = true := by decide +kernel
theorem lwk_1129 : ev_ok1 e2_MT R_law false none 1129 (.invokevirtual 165) 3 288 1 0 10 [8225, 8228, 1012, 8226, 8227] = true := by decide +kernel
theorem lwc_about (hen : en_ok) (hcx : lw_cx p s m c b L xs D (lw_no c1)) (hf1 : lw_F1 hC hN EC) (hf2 : lw_F2 hB hR hM ER) {ads : List Nat} {ws : va_W} {H : Heap} {locs : List Loc} {ls : Array Slot} {bx bm i T cells slots : Nat} (hL : L ≤ 3072) (hi : i + 6 ≤ L) (hT : T ≤ 100000) (hst : lw_St hC hR D (fun q => s.heap.size ≤ q) c1 ads T T ws H) (hS : va_S (fun q => s.heap.size ≤ q) s.heap H locs) (h0 : ls[0]? = some (.val (.ref b))) (h1 : ls[1]? = some (.val (.ref bx))) (h2 : ls[2]? = some (.val (.ref bm))) (h3 : ls[3]? = some (.val (.int (ev_i i)))) (hsz : ls.size = 4) (hbx : ads[0]? = some bx) (hbm : ads[83]? = some bm) (hr1 : cells ≤ 600000) (hr2 : slots ≤ 7302250) (hend : ∀ (ws1 : va_W) (H1 : Heap) (locs1 : List Loc) (T1 : Nat), T1 ≤ 100000 → lw_St hC hR D (fun q => s.heap.size ≤ q) c1 ads T1 T1 ws1 H1 → va_S (fun q => s.heap.size ≤ q) s.heap H1 locs1 → W p l e room_1 s m #[Value.ref b] below meth c H1 locs1 cells slots Q (F0 m 1136 ls [])) (hcc : lw_cC l hC hN EC 158 [(11, 0, 4294967295)]) (hcr : lw_cR l hR hM ER 288 [(11, 0, 4294967295)]) : W p l e room_1 s m #[Value.ref b] below meth c H locs cells slots Q (F0 m 1113 ls []) := by
  obtain ⟨hx, hb, -⟩ := id hcx
  refine lv_aload_n hx hb dl_1113 rfl h1 ?_
  refine lw_arg hcx hS h0 h3 (k := 1) (by omega) (by omega) hL dl_1114 dl_1115 dl_1116 dl_1117 dl_1118 ?_
  refine lw_callC (As := [.int (xs (i + 1))]) (rest := []) hcx hf1 lwk_1119 dl_1119 hcc hT hst hS (fun r => ⟨lw_relT _, lw_n7, trivial⟩) hbx rfl hsz (by show 0 ≤ 4; omega) hr1 hr2 fun ws1 H1 locs1 x1 hst1 hS1 => ?_
  refine lv_pop hx hb dl_1122 rfl ?_
  refine lv_aload_n hx hb dl_1123 rfl h2 ?_
  refine lw_arg hcx hS1 h0 h3 (k := 1) (by omega) (by omega) hL dl_1124 dl_1125 dl_1126 dl_1127 dl_1128 ?_
  refine lw_callR (As := [.int (xs (i + 1))]) (rest := []) hcx hf2 lwk_1129 dl_1129 hcr hT hst1 hS1 (fun r => ⟨lw_relT _, lw_n7, trivial⟩) hbm rfl hsz (by show 0 ≤ 4; omega) hr1 hr2 fun ws2 H2 locs2 x2 hst2 hS2 => ?_
  refine lv_pop hx hb dl_1132 rfl ?_
  exact lv_goto (tgt := 1136) hx hb dl_1133 (by omega) (hend ws2 H2 locs2 _ hT hst2 hS2)
end LawCases
