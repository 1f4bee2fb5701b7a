/-! THE REFERENCE'S MEADOW: goOn -/
set_option maxHeartbeats 8000000 in
set_option maxRecDepth 20000 in
theorem mw_goOn (hen : en_ok) {lc : Launch} {h0 h : ev_H} {E : e2_E} {B : Nat → Int} {fk a fp en tok num : Int} {nm : Nat} {cs wi pi ui : Int} {R : Nat → Int → Int} (hV : mw_V h0 h (mw_o B fk a fp en tok num nm cs wi pi ui) R) (hs : 0 ≤ en ∧ en ≤ B 21 ∧ B 21 ≤ 1600 ∧ 0 ≤ fk ∧ fk ≤ 5 ∧ 0 ≤ num ∧ num ≤ 9999 ∧ nm < 18446744073709551616) : mw_Cv lc 2 177 [(2, 83, 0)] E h (fun h' => ∃ a2 en2 tok2 num2 nm2, mw_V h0 h' (mw_o B fk a2 fp en2 tok2 num2 nm2 cs wi pi ui) R ∧ mw_ok (B 21) fk a2 en2 tok2 num2 nm2 ∧ en ≤ a2) := by
  refine mw_con (D := 1) (C := evd_177) (X := hx_177) [] hen ei_177 hxe_177 (Nat.le_of_ble_eq_true rfl) fun d F G hd hF hG => ?_
  show G 0 [(2, 83, 0), (9, 0, 0), (9, 0, 0)] [] E h
  obtain ⟨s1, s2, s3, s4, s5, s6, s7, s8⟩ := hs
  have t377 : ∀ (h : ev_H) (a2 en2 tok2 num2 : Int) (nm2 : Nat) (v1 v2 : ev_V), mw_V h0 h (mw_o B fk a2 fp en2 tok2 num2 nm2 cs wi pi ui) R → mw_ok (B 21) fk a2 en2 tok2 num2 nm2 → en ≤ a2 → G 377 [(2, 83, 0), v1, v2] [] E h := by
    intro h a2 en2 tok2 num2 nm2 v1 v2 hV ho hx
    refine mw_vret hG a177_377 (hF _ _ _ ⟨rfl, rfl, _, _, _, _, _, hV, ho, hx⟩)
  have t199 : ∀ (h : ev_H) (x y : Int) (nm2 : Nat) (v1 v2 : ev_V), mw_V h0 h (mw_o B fk x fp y tok num nm2 cs wi pi ui) R → en ≤ x → x < y → y ≤ B 21 → nm2 < 18446744073709551616 → G 199 [(2, 83, 0), v1, v2] [] E h := by
    intro h x y nm2 v1 v2 hV h1 h2 h3 h4
    refine mw_aload hG a177_199 rfl ?_
    refine mw_aload hG a177_200 rfl ?_
    refine mw_geti hG hV a177_201 rfl ?_
    refine mw_aload hG a177_204 rfl ?_
    refine mw_geti hG hV a177_205 rfl ?_
    refine mw_sub hG a177_208 ?_
    refine mw_push hG a177_209 mw_c8 ?_
    refine mw_icmp_le hG a177_211 (by omega) (by omega) (fun z211 => ?_) (fun z211 => ?_)
    · refine mw_aload hG a177_218 rfl ?_
      refine mw_getl hG hV a177_219 rfl ?_
      refine mw_sp1 hG a177_222 (mw_isKept hen (by omega)) rfl (by omega) fun y222 hy222 => ?_
      refine mw_ifc_eq hG a177_225 (by omega) (fun z225 => ?_) (fun z225 => ?_)
      · refine mw_push hG a177_232 mw_c2 ?_
        refine mw_putf hG hV a177_233 (Nat.le_of_ble_eq_true rfl) mw_s38 fun h hV => ?_
        refine mw_goto hG a177_236 ?_
        exact t377 _ _ _ _ _ _ _ _ hV ⟨by omega, by omega, by omega, by omega, by omega, by omega, by omega, by omega, by omega, by omega, by omega, by omega, by omega⟩ (by omega)
      · refine mw_push hG a177_228 mw_c3 ?_
        refine mw_goto hG a177_229 ?_
        refine mw_putf hG hV a177_233 (Nat.le_of_ble_eq_true rfl) mw_s38 fun h hV => ?_
        refine mw_goto hG a177_236 ?_
        exact t377 _ _ _ _ _ _ _ _ hV ⟨by omega, by omega, by omega, by omega, by omega, by omega, by omega, by omega, by omega, by omega, by omega, by omega, by omega⟩ (by omega)
    · refine mw_push hG a177_214 mw_c1 ?_
      refine mw_goto hG a177_215 ?_
      refine mw_putf hG hV a177_233 (Nat.le_of_ble_eq_true rfl) mw_s38 fun h hV => ?_
      refine mw_goto hG a177_236 ?_
      exact t377 _ _ _ _ _ _ _ _ hV ⟨by omega, by omega, by omega, by omega, by omega, by omega, by omega, by omega, by omega, by omega, by omega, by omega, by omega⟩ (by omega)
  have l156 : ∀ (n : Nat) (k : Int) (h : ev_H) (x y : Int) (nm2 : Nat) (v1 : Int), mw_V h0 h (mw_o B fk x fp y tok num nm2 cs wi pi ui) R → en ≤ x → x < y → y ≤ B 21 → nm2 < 18446744073709551616 → x ≤ k → k + n = y → G 156 [(2, 83, 0), mw_i v1, mw_i k] [] E h := by
    intro n
    induction n with
    | zero =>
      intro k h x y nm2 v1 hV h1 h2 h3 h4 h5 h6
      refine mw_iload hG a177_156 rfl ?_
      refine mw_aload hG a177_157 rfl ?_
      refine mw_geti hG hV a177_158 rfl ?_
      refine mw_icmp_ge hG a177_161 (by omega) (by omega) (fun z161 => ?_) (fun z161 => by exfalso; omega)
      exact t199 _ _ _ _ _ _ hV (by omega) (by omega) (by omega) (by omega)
    | succ n ih =>
      intro k h x y nm2 v1 hV h1 h2 h3 h4 h5 h6
      refine mw_iload hG a177_156 rfl ?_
      refine mw_aload hG a177_157 rfl ?_
      refine mw_geti hG hV a177_158 rfl ?_
      refine mw_icmp_ge hG a177_161 (by omega) (by omega) (fun z161 => by exfalso; omega) (fun z161 => ?_)
      refine mw_iload hG a177_164 rfl ?_
      refine mw_aload hG a177_165 rfl ?_
      refine mw_geti hG hV a177_166 rfl ?_
      refine mw_push hG a177_169 mw_c8 ?_
      refine mw_add hG a177_171 ?_
      refine mw_icmp_ge hG a177_172 (by omega) (by omega) (fun z172 => ?_) (fun z172 => ?_)
      · exact t199 _ _ _ _ _ _ hV (by omega) (by omega) (by omega) (by omega)
      · refine mw_aload hG a177_175 rfl ?_
        refine mw_aload hG a177_176 rfl ?_
        refine mw_getl hG hV a177_177 rfl ?_
        refine mw_push hG a177_180 mw_c8 ?_
        refine mw_lsh hG a177_182 fun x182 hx182 => ?_
        refine mw_aload hG a177_183 rfl ?_
        refine mw_iload hG a177_184 rfl ?_
        refine mw_vp1 hG hV a177_185 (mw_sign hen hV (by omega) (by omega)) rfl (by omega) fun y185 hy185 => ?_
        have hr185 : -2147483648 ≤ y185 ∧ y185 < 2147483648 := by rw [hy185]; exact mw_sg_r _ _ _
        refine mw_i2l hG a177_188 fun x188 hx188 => ?_
        refine mw_l2 hG a177_189 fun x189 hx189 => ?_
        refine mw_putl hG hV a177_190 (Nat.le_of_ble_eq_true rfl) mw_s42 fun h hV => ?_
        refine mw_iinc hG a177_193 mw_c1 rfl rfl rfl ?_
        refine mw_goto hG a177_196 ?_
        exact ih _ _ _ _ _ _ hV (by omega) (by omega) (by omega) (by omega) (by omega) (by omega)
  have l119 : ∀ (n : Nat) (y : Int) (h : ev_H) (x : Int) (v1 : Int), mw_V h0 h (mw_o B fk x fp y tok num nm cs wi pi ui) R → en ≤ x → x < y → y + n = B 21 → G 119 [(2, 83, 0), mw_i v1, (9, 0, 0)] [] E h := by
    intro n
    induction n with
    | zero =>
      intro y h x v1 hV h1 h2 h3
      refine mw_aload hG a177_119 rfl ?_
      refine mw_aload hG a177_120 rfl ?_
      refine mw_geti hG hV a177_121 rfl ?_
      refine mw_vp1 hG hV a177_124 (mw_sign hen hV (by omega) (by omega)) rfl (by omega) fun y124 hy124 => ?_
      have hr124 : -2147483648 ≤ y124 ∧ y124 < 2147483648 := by rw [hy124]; exact mw_sg_r _ _ _
      refine mw_sp1 hG a177_127 (mw_isLetter hen (by omega)) rfl (by omega) fun y127 hy127 => ?_
      have hd1 : mw_sg R (B 21) y = 0 ∨ y < B 21 := by
        by_cases hz : y < B 21
        · exact Or.inr hz
        · exact Or.inl (mw_sg_0 (by omega))
      refine mw_ifc_eq hG a177_130 (by omega) (fun z130 => ?_) (fun z130 => by exfalso; omega)
      refine mw_aload hG a177_146 rfl ?_
      refine mw_pushl hG a177_147 ?_
      refine mw_putl hG hV a177_148 (Nat.le_of_ble_eq_true rfl) mw_s42 fun h hV => ?_
      refine mw_aload hG a177_151 rfl ?_
      refine mw_geti hG hV a177_152 rfl ?_
      refine mw_istore hG a177_155 rfl (Nat.le_of_ble_eq_true rfl) rfl ?_
      exact l156 (y - x).toNat _ _ _ _ _ _ hV (by omega) (by omega) (by omega) (by omega) (by omega) (by omega)
    | succ n ih =>
      intro y h x v1 hV h1 h2 h3
      refine mw_aload hG a177_119 rfl ?_
      refine mw_aload hG a177_120 rfl ?_
      refine mw_geti hG hV a177_121 rfl ?_
      refine mw_vp1 hG hV a177_124 (mw_sign hen hV (by omega) (by omega)) rfl (by omega) fun y124 hy124 => ?_
      have hr124 : -2147483648 ≤ y124 ∧ y124 < 2147483648 := by rw [hy124]; exact mw_sg_r _ _ _
      refine mw_sp1 hG a177_127 (mw_isLetter hen (by omega)) rfl (by omega) fun y127 hy127 => ?_
      have hd1 : mw_sg R (B 21) y = 0 ∨ y < B 21 := by
        by_cases hz : y < B 21
        · exact Or.inr hz
        · exact Or.inl (mw_sg_0 (by omega))
      refine mw_ifc_eq hG a177_130 (by omega) (fun z130 => ?_) (fun z130 => ?_)
      · refine mw_aload hG a177_146 rfl ?_
        refine mw_pushl hG a177_147 ?_
        refine mw_putl hG hV a177_148 (Nat.le_of_ble_eq_true rfl) mw_s42 fun h hV => ?_
        refine mw_aload hG a177_151 rfl ?_
        refine mw_geti hG hV a177_152 rfl ?_
        refine mw_istore hG a177_155 rfl (Nat.le_of_ble_eq_true rfl) rfl ?_
        exact l156 (y - x).toNat _ _ _ _ _ _ hV (by omega) (by omega) (by omega) (by omega) (by omega) (by omega)
      · refine mw_aload hG a177_133 rfl ?_
        refine mw_dup hG a177_134 rfl ?_
        refine mw_geti hG hV a177_135 rfl ?_
        refine mw_push hG a177_138 mw_c1 ?_
        refine mw_add hG a177_139 ?_
        refine mw_putf hG hV a177_140 (Nat.le_of_ble_eq_true rfl) mw_s37 fun h hV => ?_
        refine mw_goto hG a177_143 ?_
        exact ih _ _ _ _ hV (by omega) (by omega) (by omega)
  have l259 : ∀ (n : Nat) (y : Int) (h : ev_H) (x m : Int) (v1 : Int), mw_V h0 h (mw_o B fk x fp y tok m nm cs wi pi ui) R → en ≤ x → x ≤ y → y + n = B 21 → x < B 21 → 48 ≤ mw_sg R (B 21) x → mw_sg R (B 21) x ≤ 57 → 0 ≤ m → m ≤ 9999 → (y - x = 0 → m = 0) → (y - x ≤ 1 → m ≤ 9) → (y - x ≤ 2 → m ≤ 99) → (y - x ≤ 3 → m ≤ 999) → G 259 [(2, 83, 0), mw_i v1, (9, 0, 0)] [] E h := by
    intro n
    induction n with
    | zero =>
      intro y h x m v1 hV h1 h2 h3 h4 h5 h6 h7 h8 h9 h10 h11 h12
      refine mw_aload hG a177_259 rfl ?_
      refine mw_aload hG a177_260 rfl ?_
      refine mw_geti hG hV a177_261 rfl ?_
      refine mw_vp1 hG hV a177_264 (mw_sign hen hV (by omega) (by omega)) rfl (by omega) fun y264 hy264 => ?_
      have hr264 : -2147483648 ≤ y264 ∧ y264 < 2147483648 := by rw [hy264]; exact mw_sg_r _ _ _
      refine mw_sp1 hG a177_267 (mw_isDigit hen (by omega)) rfl (by omega) fun y267 hy267 => ?_
      have hd1 : mw_sg R (B 21) y = 0 ∨ y < B 21 := by
        by_cases hz : y < B 21
        · exact Or.inr hz
        · exact Or.inl (mw_sg_0 (by omega))
      refine mw_ifc_eq hG a177_270 (by omega) (fun z270 => ?_) (fun z270 => by exfalso; omega)
      have hxy : x < y := by
        rcases Int.lt_or_eq_of_le h2 with hz | hz
        · exact hz
        · subst hz
          omega
      refine mw_aload hG a177_322 rfl ?_
      refine mw_aload hG a177_323 rfl ?_
      refine mw_geti hG hV a177_324 rfl ?_
      refine mw_aload hG a177_327 rfl ?_
      refine mw_geti hG hV a177_328 rfl ?_
      refine mw_sub hG a177_331 ?_
      refine mw_push hG a177_332 mw_c4 ?_
      refine mw_icmp_gt hG a177_333 (by omega) (by omega) (fun z333 => ?_) (fun z333 => ?_)
      · refine mw_push hG a177_350 mw_c1 ?_
        refine mw_goto hG a177_351 ?_
        refine mw_putf hG hV a177_355 (Nat.le_of_ble_eq_true rfl) mw_s38 fun h hV => ?_
        refine mw_goto hG a177_358 ?_
        exact t377 _ _ _ _ _ _ _ _ hV ⟨by omega, by omega, by omega, by omega, by omega, by omega, by omega, by omega, by omega, by omega, by omega, by omega, by omega⟩ (by omega)
      · refine mw_aload hG a177_336 rfl ?_
        refine mw_aload hG a177_337 rfl ?_
        refine mw_geti hG hV a177_338 rfl ?_
        refine mw_vp1 hG hV a177_341 (mw_sign hen hV (by omega) (by omega)) rfl (by omega) fun y341 hy341 => ?_
        have hr341 : -2147483648 ≤ y341 ∧ y341 < 2147483648 := by rw [hy341]; exact mw_sg_r _ _ _
        refine mw_sp1 hG a177_344 (mw_isLetter hen (by omega)) rfl (by omega) fun y344 hy344 => ?_
        refine mw_ifc_eq hG a177_347 (by omega) (fun z347 => ?_) (fun z347 => ?_)
        · refine mw_push hG a177_354 mw_c4 ?_
          refine mw_putf hG hV a177_355 (Nat.le_of_ble_eq_true rfl) mw_s38 fun h hV => ?_
          refine mw_goto hG a177_358 ?_
          exact t377 _ _ _ _ _ _ _ _ hV ⟨by omega, by omega, by omega, by omega, by omega, by omega, by omega, by omega, by omega, by omega, by omega, by omega, by omega⟩ (by omega)
        · refine mw_push hG a177_350 mw_c1 ?_
          refine mw_goto hG a177_351 ?_
          refine mw_putf hG hV a177_355 (Nat.le_of_ble_eq_true rfl) mw_s38 fun h hV => ?_
          refine mw_goto hG a177_358 ?_
          exact t377 _ _ _ _ _ _ _ _ hV ⟨by omega, by omega, by omega, by omega, by omega, by omega, by omega, by omega, by omega, by omega, by omega, by omega, by omega⟩ (by omega)
    | succ n ih =>
      intro y h x m v1 hV h1 h2 h3 h4 h5 h6 h7 h8 h9 h10 h11 h12
      refine mw_aload hG a177_259 rfl ?_
      refine mw_aload hG a177_260 rfl ?_
      refine mw_geti hG hV a177_261 rfl ?_
      refine mw_vp1 hG hV a177_264 (mw_sign hen hV (by omega) (by omega)) rfl (by omega) fun y264 hy264 => ?_
      have hr264 : -2147483648 ≤ y264 ∧ y264 < 2147483648 := by rw [hy264]; exact mw_sg_r _ _ _
      refine mw_sp1 hG a177_267 (mw_isDigit hen (by omega)) rfl (by omega) fun y267 hy267 => ?_
      have hd1 : mw_sg R (B 21) y = 0 ∨ y < B 21 := by
        by_cases hz : y < B 21
        · exact Or.inr hz
        · exact Or.inl (mw_sg_0 (by omega))
      refine mw_ifc_eq hG a177_270 (by omega) (fun z270 => ?_) (fun z270 => ?_)
      · have hxy : x < y := by
          rcases Int.lt_or_eq_of_le h2 with hz | hz
          · exact hz
          · subst hz
            omega
        refine mw_aload hG a177_322 rfl ?_
        refine mw_aload hG a177_323 rfl ?_
        refine mw_geti hG hV a177_324 rfl ?_
        refine mw_aload hG a177_327 rfl ?_
        refine mw_geti hG hV a177_328 rfl ?_
        refine mw_sub hG a177_331 ?_
        refine mw_push hG a177_332 mw_c4 ?_
        refine mw_icmp_gt hG a177_333 (by omega) (by omega) (fun z333 => ?_) (fun z333 => ?_)
        · refine mw_push hG a177_350 mw_c1 ?_
          refine mw_goto hG a177_351 ?_
          refine mw_putf hG hV a177_355 (Nat.le_of_ble_eq_true rfl) mw_s38 fun h hV => ?_
          refine mw_goto hG a177_358 ?_
          exact t377 _ _ _ _ _ _ _ _ hV ⟨by omega, by omega, by omega, by omega, by omega, by omega, by omega, by omega, by omega, by omega, by omega, by omega, by omega⟩ (by omega)
        · refine mw_aload hG a177_336 rfl ?_
          refine mw_aload hG a177_337 rfl ?_
          refine mw_geti hG hV a177_338 rfl ?_
          refine mw_vp1 hG hV a177_341 (mw_sign hen hV (by omega) (by omega)) rfl (by omega) fun y341 hy341 => ?_
          have hr341 : -2147483648 ≤ y341 ∧ y341 < 2147483648 := by rw [hy341]; exact mw_sg_r _ _ _
          refine mw_sp1 hG a177_344 (mw_isLetter hen (by omega)) rfl (by omega) fun y344 hy344 => ?_
          refine mw_ifc_eq hG a177_347 (by omega) (fun z347 => ?_) (fun z347 => ?_)
          · refine mw_push hG a177_354 mw_c4 ?_
            refine mw_putf hG hV a177_355 (Nat.le_of_ble_eq_true rfl) mw_s38 fun h hV => ?_
            refine mw_goto hG a177_358 ?_
            exact t377 _ _ _ _ _ _ _ _ hV ⟨by omega, by omega, by omega, by omega, by omega, by omega, by omega, by omega, by omega, by omega, by omega, by omega, by omega⟩ (by omega)
          · refine mw_push hG a177_350 mw_c1 ?_
            refine mw_goto hG a177_351 ?_
            refine mw_putf hG hV a177_355 (Nat.le_of_ble_eq_true rfl) mw_s38 fun h hV => ?_
            refine mw_goto hG a177_358 ?_
            exact t377 _ _ _ _ _ _ _ _ hV ⟨by omega, by omega, by omega, by omega, by omega, by omega, by omega, by omega, by omega, by omega, by omega, by omega, by omega⟩ (by omega)
      · refine mw_aload hG a177_273 rfl ?_
        refine mw_geti hG hV a177_274 rfl ?_
        refine mw_aload hG a177_277 rfl ?_
        refine mw_geti hG hV a177_278 rfl ?_
        refine mw_sub hG a177_281 ?_
        refine mw_push hG a177_282 mw_c4 ?_
        refine mw_icmp_ge hG a177_283 (by omega) (by omega) (fun z283 => ?_) (fun z283 => ?_)
        · refine mw_aload hG a177_309 rfl ?_
          refine mw_dup hG a177_310 rfl ?_
          refine mw_geti hG hV a177_311 rfl ?_
          refine mw_push hG a177_314 mw_c1 ?_
          refine mw_add hG a177_315 ?_
          refine mw_putf hG hV a177_316 (Nat.le_of_ble_eq_true rfl) mw_s37 fun h hV => ?_
          refine mw_goto hG a177_319 ?_
          exact ih _ _ _ _ _ hV (by omega) (by omega) (by omega) (by omega) (by omega) (by omega) (by omega) (by omega) (by omega) (by omega) (by omega) (by omega)
        · refine mw_aload hG a177_286 rfl ?_
          refine mw_push hG a177_287 mw_c10 ?_
          refine mw_aload hG a177_289 rfl ?_
          refine mw_geti hG hV a177_290 rfl ?_
          refine mw_mul hG a177_293 ?_
          refine mw_aload hG a177_294 rfl ?_
          refine mw_aload hG a177_295 rfl ?_
          refine mw_geti hG hV a177_296 rfl ?_
          refine mw_vp1 hG hV a177_299 (mw_sign hen hV (by omega) (by omega)) rfl (by omega) fun y299 hy299 => ?_
          have hr299 : -2147483648 ≤ y299 ∧ y299 < 2147483648 := by rw [hy299]; exact mw_sg_r _ _ _
          refine mw_add hG a177_302 ?_
          refine mw_push hG a177_303 mw_c48 ?_
          refine mw_sub hG a177_305 ?_
          refine mw_putf hG hV a177_306 (Nat.le_of_ble_eq_true rfl) mw_s41 fun h hV => ?_
          refine mw_aload hG a177_309 rfl ?_
          refine mw_dup hG a177_310 rfl ?_
          refine mw_geti hG hV a177_311 rfl ?_
          refine mw_push hG a177_314 mw_c1 ?_
          refine mw_add hG a177_315 ?_
          refine mw_putf hG hV a177_316 (Nat.le_of_ble_eq_true rfl) mw_s37 fun h hV => ?_
          refine mw_goto hG a177_319 ?_
          exact ih _ _ _ _ _ hV (by omega) (by omega) (by omega) (by omega) (by omega) (by omega) (by omega) (by omega) (by omega) (by omega) (by omega) (by omega)
  have t58 : ∀ (h : ev_H) (x : Int), mw_V h0 h (mw_o B fk x fp en tok num nm cs wi pi ui) R → en ≤ x → x ≤ B 21 → G 58 [(2, 83, 0), (9, 0, 0), (9, 0, 0)] [] E h := by
    intro h x hV h1 h2
    refine mw_aload hG a177_58 rfl ?_
    refine mw_aload hG a177_59 rfl ?_
    refine mw_geti hG hV a177_60 rfl ?_
    refine mw_vp1 hG hV a177_63 (mw_sign hen hV (by omega) (by omega)) rfl (by omega) fun y63 hy63 => ?_
    have hr63 : -2147483648 ≤ y63 ∧ y63 < 2147483648 := by rw [hy63]; exact mw_sg_r _ _ _
    refine mw_istore hG a177_66 rfl (Nat.le_of_ble_eq_true rfl) rfl ?_
    refine mw_aload hG a177_67 rfl ?_
    refine mw_aload hG a177_68 rfl ?_
    refine mw_geti hG hV a177_69 rfl ?_
    refine mw_push hG a177_72 mw_c1 ?_
    refine mw_add hG a177_73 ?_
    refine mw_putf hG hV a177_74 (Nat.le_of_ble_eq_true rfl) mw_s37 fun h hV => ?_
    refine mw_aload hG a177_77 rfl ?_
    refine mw_geti hG hV a177_78 rfl ?_
    refine mw_aload hG a177_81 rfl ?_
    refine mw_geti hG hV a177_82 rfl ?_
    refine mw_icmp_lt hG a177_85 (by omega) (by omega) (fun z85 => ?_) (fun z85 => ?_)
    · refine mw_iload hG a177_112 rfl ?_
      refine mw_sp1 hG a177_113 (mw_isLetter hen (by omega)) rfl (by omega) fun y113 hy113 => ?_
      refine mw_ifc_eq hG a177_116 (by omega) (fun z116 => ?_) (fun z116 => ?_)
      · refine mw_iload hG a177_239 rfl ?_
        refine mw_sp1 hG a177_240 (mw_isDigit hen (by omega)) rfl (by omega) fun y240 hy240 => ?_
        refine mw_ifc_eq hG a177_243 (by omega) (fun z243 => ?_) (fun z243 => ?_)
        · refine mw_aload hG a177_361 rfl ?_
          refine mw_iload hG a177_362 rfl ?_
          refine mw_sp1 hG a177_363 (mw_isSign hen (by omega)) rfl (by omega) fun y363 hy363 => ?_
          refine mw_ifc_eq hG a177_366 (by omega) (fun z366 => ?_) (fun z366 => ?_)
          · refine mw_push hG a177_373 mw_c1 ?_
            refine mw_putf hG hV a177_374 (Nat.le_of_ble_eq_true rfl) mw_s38 fun h hV => ?_
            exact t377 _ _ _ _ _ _ _ _ hV ⟨by omega, by omega, by omega, by omega, by omega, by omega, by omega, by omega, by omega, by omega, by omega, by omega, by omega⟩ (by omega)
          · refine mw_push hG a177_369 mw_c5 ?_
            refine mw_goto hG a177_370 ?_
            refine mw_putf hG hV a177_374 (Nat.le_of_ble_eq_true rfl) mw_s38 fun h hV => ?_
            exact t377 _ _ _ _ _ _ _ _ hV ⟨by omega, by omega, by omega, by omega, by omega, by omega, by omega, by omega, by omega, by omega, by omega, by omega, by omega⟩ (by omega)
        · refine mw_aload hG a177_246 rfl ?_
          refine mw_push hG a177_247 mw_c0 ?_
          refine mw_putf hG hV a177_248 (Nat.le_of_ble_eq_true rfl) mw_s41 fun h hV => ?_
          refine mw_aload hG a177_251 rfl ?_
          refine mw_aload hG a177_252 rfl ?_
          refine mw_geti hG hV a177_253 rfl ?_
          refine mw_putf hG hV a177_256 (Nat.le_of_ble_eq_true rfl) mw_s37 fun h hV => ?_
          exact l259 (B 21 - x).toNat _ _ _ _ _ hV (by omega) (by omega) (by omega) (by omega) (by omega) (by omega) (by omega) (by omega) (by omega) (by omega) (by omega) (by omega)
      · exact l119 (B 21 - (x + 1)).toNat _ _ _ _ hV (by omega) (by omega) (by omega)
    · refine mw_aload hG a177_88 rfl ?_
      refine mw_push hG a177_89 mw_c0 ?_
      refine mw_putf hG hV a177_90 (Nat.le_of_ble_eq_true rfl) mw_s38 fun h hV => ?_
      refine mw_aload hG a177_93 rfl ?_
      refine mw_aload hG a177_94 rfl ?_
      refine mw_geti hG hV a177_95 rfl ?_
      refine mw_putf hG hV a177_98 (Nat.le_of_ble_eq_true rfl) mw_s24 fun h hV => ?_
      refine mw_aload hG a177_101 rfl ?_
      refine mw_aload hG a177_102 rfl ?_
      refine mw_geti hG hV a177_103 rfl ?_
      refine mw_putf hG hV a177_106 (Nat.le_of_ble_eq_true rfl) mw_s37 fun h hV => ?_
      refine mw_goto hG a177_109 ?_
      exact t377 _ _ _ _ _ _ _ _ hV ⟨by omega, by omega, by omega, by omega, by omega, by omega, by omega, by omega, by omega, by omega, by omega, by omega, by omega⟩ (by omega)
  have l8 : ∀ (n : Nat) (x : Int) (h : ev_H), mw_V h0 h (mw_o B fk x fp en tok num nm cs wi pi ui) R → en ≤ x → x + n = B 21 → G 8 [(2, 83, 0), (9, 0, 0), (9, 0, 0)] [] E h := by
    intro n
    induction n with
    | zero =>
      intro x h hV h1 h2
      refine mw_aload hG a177_8 rfl ?_
      refine mw_geti hG hV a177_9 rfl ?_
      refine mw_aload hG a177_12 rfl ?_
      refine mw_geti hG hV a177_13 rfl ?_
      refine mw_icmp_ge hG a177_16 (by omega) (by omega) (fun z16 => ?_) (fun z16 => by exfalso; omega)
      exact t58 _ _ hV (by omega) (by omega)
    | succ n ih =>
      intro x h hV h1 h2
      refine mw_aload hG a177_8 rfl ?_
      refine mw_geti hG hV a177_9 rfl ?_
      refine mw_aload hG a177_12 rfl ?_
      refine mw_geti hG hV a177_13 rfl ?_
      refine mw_icmp_ge hG a177_16 (by omega) (by omega) (fun z16 => by exfalso; omega) (fun z16 => ?_)
      refine mw_aload hG a177_19 rfl ?_
      refine mw_aload hG a177_20 rfl ?_
      refine mw_geti hG hV a177_21 rfl ?_
      refine mw_vp1 hG hV a177_24 (mw_sign hen hV (by omega) (by omega)) rfl (by omega) fun y24 hy24 => ?_
      have hr24 : -2147483648 ≤ y24 ∧ y24 < 2147483648 := by rw [hy24]; exact mw_sg_r _ _ _
      refine mw_push hG a177_27 mw_c32 ?_
      refine mw_icmp_eq hG a177_29 (by omega) (by omega) (fun z29 => ?_) (fun z29 => ?_)
      · refine mw_aload hG a177_45 rfl ?_
        refine mw_dup hG a177_46 rfl ?_
        refine mw_geti hG hV a177_47 rfl ?_
        refine mw_push hG a177_50 mw_c1 ?_
        refine mw_add hG a177_51 ?_
        refine mw_putf hG hV a177_52 (Nat.le_of_ble_eq_true rfl) mw_s24 fun h hV => ?_
        refine mw_goto hG a177_55 ?_
        exact ih _ _ hV (by omega) (by omega)
      · refine mw_aload hG a177_32 rfl ?_
        refine mw_aload hG a177_33 rfl ?_
        refine mw_geti hG hV a177_34 rfl ?_
        refine mw_vp1 hG hV a177_37 (mw_sign hen hV (by omega) (by omega)) rfl (by omega) fun y37 hy37 => ?_
        have hr37 : -2147483648 ≤ y37 ∧ y37 < 2147483648 := by rw [hy37]; exact mw_sg_r _ _ _
        refine mw_push hG a177_40 mw_c10 ?_
        refine mw_icmp_ne hG a177_42 (by omega) (by omega) (fun z42 => ?_) (fun z42 => ?_)
        · exact t58 _ _ hV (by omega) (by omega)
        · refine mw_aload hG a177_45 rfl ?_
          refine mw_dup hG a177_46 rfl ?_
          refine mw_geti hG hV a177_47 rfl ?_
          refine mw_push hG a177_50 mw_c1 ?_
          refine mw_add hG a177_51 ?_
          refine mw_putf hG hV a177_52 (Nat.le_of_ble_eq_true rfl) mw_s24 fun h hV => ?_
          refine mw_goto hG a177_55 ?_
          exact ih _ _ hV (by omega) (by omega)
  refine mw_aload hG a177_0 rfl ?_
  refine mw_aload hG a177_1 rfl ?_
  refine mw_geti hG hV a177_2 rfl ?_
  refine mw_putf hG hV a177_5 (Nat.le_of_ble_eq_true rfl) mw_s24 fun h hV => ?_
  exact l8 (B 21 - en).toNat _ _ hV (by omega) (by omega)
