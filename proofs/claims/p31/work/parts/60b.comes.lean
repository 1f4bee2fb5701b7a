/-! THE REFERENCE: what is opaque made exact; comes, keepAct, exchange -/
section Opq
variable {D : va_G} {cA : e2_cA} {A : Nat → Prop} {ads r : List Nat} {ws : va_W} {h : ev_H} {H : Heap}
theorem ex_opq (hw : e2_wo D cA A ads r ws h H) {k t : Nat} (hk : k < 133) (ht : (ev_hg h k).1 = t) (h60 : 60 ≤ t) (h76 : t < 76) : ∃ g, cA.2 t (.inl (cA.1 0, rf_n t, .inl g)) ∧ e2_wo D cA A ads r ws (ev_hs h k (50, sy_R (rf_n t) g)) H := by
  obtain ⟨a, e, q1, q2⟩ := hw.2.2.1 k hk
  rw [ht] at q2
  have q3 : cA.2 t e := by
    rcases q2 with ⟨x, -⟩ | ⟨-, x, -⟩ | ⟨x, -⟩ | ⟨-, x, -⟩ | ⟨-, x⟩ | ⟨x, -⟩ | ⟨x, -⟩ | ⟨x, -⟩
    · omega
    · omega
    · omega
    · omega
    · exact x (by omega)
    · omega
    · omega
    · omega
  obtain ⟨g, rfl, -⟩ := hw.2.1.2.1 t e h60 h76 q3
  exact ⟨g, q3, hw.abs hk q1 50 (sy_R (rf_n t) g) (ex_R (i := 0) (by omega)) (Or.inr (by decide))⟩
/-- an exact row, opaque again -/
theorem ex_opq_bk (ho : e2_okA cA) {t n : Nat} {l : List ev_V} {g : Nat → Int32} {e : va_E} (h60 : 60 ≤ t) (h76 : t < 76) (hn : rf_n t = n) (hg : cA.2 t (.inl (cA.1 0, n, .inl g))) (h : e2_relC cA ads r 50 (sy_R n g) e) : e2_relC cA ads r t l e := by
  subst hn
  obtain ⟨g', g1, g2⟩ := ex_R_e (i := 0) (by omega) h
  obtain ⟨g0, e0, e1⟩ := ho.1 t _ h60 h76 hg
  have e0 : g = g0 := by injection e0 with e0; injection e0 with _ e0; injection e0 with _ e0; injection e0
  subst e0
  refine Or.inr (Or.inr (Or.inr (Or.inr (Or.inl ⟨h60, fun _ => ?_⟩))))
  rw [g1]
  exact e1 g' g2
end Opq
section SymS
variable {call : e2_Call} {F : e2_F} {X : List e2_X} {G : sy_P} {al al' st r : List ev_V} {E : e2_E} {h : ev_H} {pc q t : Nat}
theorem sy_div (hG : sy_St call F X G) {o : Int32 → Int32 → Int32} {tr : ev_V → ev_V → Nat → Nat → Nat → Nat → ev_V} {x y : Int32} (ha : sy_at X pc (o2_div o tr) q) (hz : ¬ y = 0) (hg : G q al (sy_I (o x y) :: r) E h) : G pc al (sy_I y :: sy_I x :: r) E h := by
  refine sy_go hG ha ?_
  unfold o2_div
  have hk : ev_key y ≠ 2147483648 := fun z => hz (ev_key_eqI.mpr (by rw [z]; decide +kernel))
  have hb : (Nat.blt 2147483648 (ev_key y) || Nat.blt (ev_key y) 2147483648) = true := by
    rcases Nat.lt_or_gt_of_ne hk with z | z
    · rw [sy_blt z]; simp
    · rw [sy_blt z]; rfl
  rw [sy_2c, sy_rng, sy_if_t hb, sy_bin]
  exact sy_K_i hg
theorem sy_sb {E : e2_E} {x : Int32} {lo hi : Nat} {k : e2_E → Bool} (hk : k E = true) : e2_sb E (sy_I x) lo hi k = true := by
  unfold e2_sb
  cases Nat.blt hi lo
  · exact hk
  · rfl
theorem sy_swl {E : e2_E} {x : Int32} {K : Nat → e2_E → Bool} : ∀ (ts : List (Nat × Nat)), (∀ p ∈ ts, p.1 = ev_key x → K p.2 E = true) → e2_sw E (sy_I x) (ev_key x) (ev_key x) K ts = true := by
  intro ts
  induction ts with
  | nil => intro _; rfl
  | cons p ts ih =>
    intro hk
    have ih := ih fun q hq => hk q (List.mem_cons_of_mem _ hq)
    show e2_el (Nat.blt p.1 (ev_key x)) (e2_sw E (sy_I x) (ev_key x) (ev_key x) K ts) (e2_el (Nat.blt (ev_key x) p.1) (e2_sw E (sy_I x) (ev_key x) (ev_key x) K ts) (e2_if (e2_sb E (sy_I x) p.1 p.1 fun E' => K p.2 E') (e2_sw E (sy_I x) (ev_key x) (ev_key x) K ts))) = true
    rcases Nat.lt_trichotomy p.1 (ev_key x) with z | z | z
    · rw [sy_el_t (sy_blt z)]; exact ih
    · rw [sy_el_f (sy_blt_f (by omega)), sy_el_f (sy_blt_f (by omega)), sy_if_t (sy_sb (hk p List.mem_cons_self z))]
      exact ih
    · rw [sy_el_f (sy_blt_f (by omega)), sy_el_t (sy_blt z)]; exact ih
theorem sy_sw (hG : sy_St call F X G) {x : Int32} {ts : List (Nat × Nat)} {dd : Nat} (ha : sy_at X pc (o2_sw ts dd) q) (h1 : ∀ p ∈ ts, G p.2 al r E h) (h2 : G dd al r E h) : G pc al (sy_I x :: r) E h := by
  refine sy_go hG ha ?_
  unfold o2_sw
  rw [sy_1c, sy_rng, sy_if_t (sy_swl ts fun p hp _ => sy_K_i (h1 p hp)), sy_el_t (Nat.beq_refl _)]
  cases e2_hit (ev_key x) ts
  · exact sy_K_i h2
  · rfl
end SymS

theorem rf_two (hen : en_ok) {l : Launch} {x y z : Int32} {E : e2_E} {h : ev_H} : sy_C l 1 208 [sy_I x, sy_I y, sy_I z] E h (fun v E' h' => (∃ w, v = sy_I w) ∧ E' = E ∧ h' = h) := by
  refine sy_con (D := 0) (C := evd_208) (X := e2x_208) [] hen ei_208 ex2_208 (Nat.le_of_ble_eq_true rfl) fun d' F G hd' hF hG => ?_
  show G 0 [sy_I x, sy_I y, sy_I z] [] E h
  have t120 : G 120 [sy_I x, sy_I y, sy_I z] [] E h := (sy_iload hG a208_120 rfl (sy_iload hG a208_121 rfl (sy_bin2 hG a208_122 (sy_iret hG a208_123 (Or.inl rfl) (hF _ _ _ ⟨⟨_, rfl⟩, rfl, rfl⟩)))))
  have t124 : G 124 [sy_I x, sy_I y, sy_I z] [] E h := (sy_iload hG a208_124 rfl (sy_iload hG a208_125 rfl (sy_bin2 hG a208_126 (sy_iret hG a208_127 (Or.inl rfl) (hF _ _ _ ⟨⟨_, rfl⟩, rfl, rfl⟩)))))
  have t128 : G 128 [sy_I x, sy_I y, sy_I z] [] E h := (sy_iload hG a208_128 rfl (sy_iload hG a208_129 rfl (sy_bin2 hG a208_130 (sy_iret hG a208_131 (Or.inl rfl) (hF _ _ _ ⟨⟨_, rfl⟩, rfl, rfl⟩)))))
  have t132 : G 132 [sy_I x, sy_I y, sy_I z] [] E h := (sy_iload hG a208_132 rfl (sy_ifc hG a208_133 (fun hne => (sy_iload hG a208_140 rfl (sy_iload hG a208_141 rfl (sy_div hG a208_142 hne (sy_iret hG a208_143 (Or.inl rfl) (hF _ _ _ ⟨⟨_, rfl⟩, rfl, rfl⟩)))))) (fun _ => (sy_push (y := 0) hG a208_136 rfl (sy_goto hG a208_137 (sy_iret hG a208_143 (Or.inl rfl) (hF _ _ _ ⟨⟨_, rfl⟩, rfl, rfl⟩)))))))
  have t144 : G 144 [sy_I x, sy_I y, sy_I z] [] E h := (sy_iload hG a208_144 rfl (sy_ifc hG a208_145 (fun hne => (sy_iload hG a208_152 rfl (sy_iload hG a208_153 rfl (sy_div hG a208_154 hne (sy_iret hG a208_155 (Or.inl rfl) (hF _ _ _ ⟨⟨_, rfl⟩, rfl, rfl⟩)))))) (fun _ => (sy_push (y := 0) hG a208_148 rfl (sy_goto hG a208_149 (sy_iret hG a208_155 (Or.inl rfl) (hF _ _ _ ⟨⟨_, rfl⟩, rfl, rfl⟩)))))))
  have t156 : G 156 [sy_I x, sy_I y, sy_I z] [] E h := (sy_iload hG a208_156 rfl (sy_iload hG a208_157 rfl (sy_icmp hG a208_158 (fun _ => (sy_push (y := 0) hG a208_165 rfl (sy_iret hG a208_166 (Or.inl rfl) (hF _ _ _ ⟨⟨_, rfl⟩, rfl, rfl⟩)))) (fun _ => (sy_push (y := 1) hG a208_161 rfl (sy_goto hG a208_162 (sy_iret hG a208_166 (Or.inl rfl) (hF _ _ _ ⟨⟨_, rfl⟩, rfl, rfl⟩))))))))
  have t167 : G 167 [sy_I x, sy_I y, sy_I z] [] E h := (sy_iload hG a208_167 rfl (sy_iload hG a208_168 rfl (sy_icmp hG a208_169 (fun _ => (sy_push (y := 0) hG a208_176 rfl (sy_iret hG a208_177 (Or.inl rfl) (hF _ _ _ ⟨⟨_, rfl⟩, rfl, rfl⟩)))) (fun _ => (sy_push (y := 1) hG a208_172 rfl (sy_goto hG a208_173 (sy_iret hG a208_177 (Or.inl rfl) (hF _ _ _ ⟨⟨_, rfl⟩, rfl, rfl⟩))))))))
  have t178 : G 178 [sy_I x, sy_I y, sy_I z] [] E h := (sy_iload hG a208_178 rfl (sy_iload hG a208_179 rfl (sy_icmp hG a208_180 (fun _ => (sy_push (y := 0) hG a208_187 rfl (sy_iret hG a208_188 (Or.inl rfl) (hF _ _ _ ⟨⟨_, rfl⟩, rfl, rfl⟩)))) (fun _ => (sy_push (y := 1) hG a208_183 rfl (sy_goto hG a208_184 (sy_iret hG a208_188 (Or.inl rfl) (hF _ _ _ ⟨⟨_, rfl⟩, rfl, rfl⟩))))))))
  have t189 : G 189 [sy_I x, sy_I y, sy_I z] [] E h := (sy_iload hG a208_189 rfl (sy_ifc hG a208_190 (fun _ => (sy_push (y := 0) hG a208_201 rfl (sy_iret hG a208_202 (Or.inl rfl) (hF _ _ _ ⟨⟨_, rfl⟩, rfl, rfl⟩)))) (fun _ => (sy_iload hG a208_193 rfl (sy_ifc hG a208_194 (fun _ => (sy_push (y := 0) hG a208_201 rfl (sy_iret hG a208_202 (Or.inl rfl) (hF _ _ _ ⟨⟨_, rfl⟩, rfl, rfl⟩)))) (fun _ => (sy_push (y := 1) hG a208_197 rfl (sy_goto hG a208_198 (sy_iret hG a208_202 (Or.inl rfl) (hF _ _ _ ⟨⟨_, rfl⟩, rfl, rfl⟩))))))))))
  have t203 : G 203 [sy_I x, sy_I y, sy_I z] [] E h := (sy_iload hG a208_203 rfl (sy_ifc hG a208_204 (fun hne => (sy_push (y := 1) hG a208_211 rfl (sy_goto hG a208_212 (sy_iret hG a208_216 (Or.inl rfl) (hF _ _ _ ⟨⟨_, rfl⟩, rfl, rfl⟩))))) (fun _ => (sy_iload hG a208_207 rfl (sy_ifc hG a208_208 (fun _ => (sy_push (y := 0) hG a208_215 rfl (sy_iret hG a208_216 (Or.inl rfl) (hF _ _ _ ⟨⟨_, rfl⟩, rfl, rfl⟩)))) (fun _ => (sy_push (y := 1) hG a208_211 rfl (sy_goto hG a208_212 (sy_iret hG a208_216 (Or.inl rfl) (hF _ _ _ ⟨⟨_, rfl⟩, rfl, rfl⟩))))))))))
  exact sy_iload hG a208_0 rfl (sy_sw hG a208_1 (e2_fa (P := fun p : Nat × Nat => G p.2 [sy_I x, sy_I y, sy_I z] [] E h) t144 (e2_fa (P := fun p : Nat × Nat => G p.2 [sy_I x, sy_I y, sy_I z] [] E h) t189 (e2_fa (P := fun p : Nat × Nat => G p.2 [sy_I x, sy_I y, sy_I z] [] E h) t203 (e2_fa (P := fun p : Nat × Nat => G p.2 [sy_I x, sy_I y, sy_I z] [] E h) t203 (e2_fa (P := fun p : Nat × Nat => G p.2 [sy_I x, sy_I y, sy_I z] [] E h) t203 (e2_fa (P := fun p : Nat × Nat => G p.2 [sy_I x, sy_I y, sy_I z] [] E h) t128 (e2_fa (P := fun p : Nat × Nat => G p.2 [sy_I x, sy_I y, sy_I z] [] E h) t120 (e2_fa (P := fun p : Nat × Nat => G p.2 [sy_I x, sy_I y, sy_I z] [] E h) t203 (e2_fa (P := fun p : Nat × Nat => G p.2 [sy_I x, sy_I y, sy_I z] [] E h) t124 (e2_fa (P := fun p : Nat × Nat => G p.2 [sy_I x, sy_I y, sy_I z] [] E h) t203 (e2_fa (P := fun p : Nat × Nat => G p.2 [sy_I x, sy_I y, sy_I z] [] E h) t132 (e2_fa (P := fun p : Nat × Nat => G p.2 [sy_I x, sy_I y, sy_I z] [] E h) t203 (e2_fa (P := fun p : Nat × Nat => G p.2 [sy_I x, sy_I y, sy_I z] [] E h) t203 (e2_fa (P := fun p : Nat × Nat => G p.2 [sy_I x, sy_I y, sy_I z] [] E h) t203 (e2_fa (P := fun p : Nat × Nat => G p.2 [sy_I x, sy_I y, sy_I z] [] E h) t203 (e2_fa (P := fun p : Nat × Nat => G p.2 [sy_I x, sy_I y, sy_I z] [] E h) t203 (e2_fa (P := fun p : Nat × Nat => G p.2 [sy_I x, sy_I y, sy_I z] [] E h) t203 (e2_fa (P := fun p : Nat × Nat => G p.2 [sy_I x, sy_I y, sy_I z] [] E h) t203 (e2_fa (P := fun p : Nat × Nat => G p.2 [sy_I x, sy_I y, sy_I z] [] E h) t203 (e2_fa (P := fun p : Nat × Nat => G p.2 [sy_I x, sy_I y, sy_I z] [] E h) t203 (e2_fa (P := fun p : Nat × Nat => G p.2 [sy_I x, sy_I y, sy_I z] [] E h) t203 (e2_fa (P := fun p : Nat × Nat => G p.2 [sy_I x, sy_I y, sy_I z] [] E h) t203 (e2_fa (P := fun p : Nat × Nat => G p.2 [sy_I x, sy_I y, sy_I z] [] E h) t203 (e2_fa (P := fun p : Nat × Nat => G p.2 [sy_I x, sy_I y, sy_I z] [] E h) t156 (e2_fa (P := fun p : Nat × Nat => G p.2 [sy_I x, sy_I y, sy_I z] [] E h) t178 (e2_fa (P := fun p : Nat × Nat => G p.2 [sy_I x, sy_I y, sy_I z] [] E h) t167 e2_fz)))))))))))))))))))))))))) t203)
/-- the reference's object, as far as a rule asks for it -/
def rf_O (h : ev_H) (lo : List ev_V) (b : Nat) : Prop :=
  ev_hg h 83 = (10, lo) ∧ lo[0]? = some (sy_I (ev_i b)) ∧ lo[48]? = some (2, 101, 0) ∧ lo[49]? = some (2, 102, 0) ∧ lo[52]? = some (2, 107, 0) ∧ lo[53]? = some (2, 108, 0) ∧ lo[56]? = some (2, 111, 0) ∧ lo[5]? = some (2, 112, 0) ∧
  (∃ x, lo[61]? = some (sy_I x)) ∧ (∃ x, lo[62]? = some (sy_I x)) ∧ (∃ x, lo[63]? = some (sy_I x)) ∧ (∃ x, lo[64]? = some (sy_I x)) ∧ ∃ x, lo[65]? = some (sy_I x)
theorem rf_asked (hen : en_ok) {l : Launch} {b0 b : Nat} {x y : Int32} {lo : List ev_V} {w : Nat → Int32} {E : e2_E} {h : ev_H} (hO : rf_O h lo b) (k112 : ev_hg h 112 = (50, sy_R 26 w)) : sy_C l 1 209 [(2, 83, b0), sy_I x, sy_I y] E h (fun v E' h' => (∃ w, v = sy_I w) ∧ E' = E ∧ h' = h) := by
  obtain ⟨k83, -, -, -, -, -, -, k5, ⟨x61, k61⟩, ⟨x62, k62⟩, ⟨x63, k63⟩, ⟨x64, k64⟩, ⟨x65, k65⟩⟩ := hO
  refine sy_con (D := 0) (C := evd_209) (X := e2x_209) [] hen ei_209 ex2_209 (Nat.le_of_ble_eq_true rfl) fun d' F G hd' hF hG => ?_
  show G 0 [(2, 83, b0), sy_I x, sy_I y] [] E h
  have t60 : G 60 [(2, 83, b0), sy_I x, sy_I y] [] E h := (sy_aload hG a209_60 rfl (sy_getf hG a209_61 (by omega) k83 k61 (Or.inl rfl) (sy_iret hG a209_64 (Or.inl rfl) (hF _ _ _ ⟨⟨_, rfl⟩, rfl, rfl⟩))))
  have t65 : G 65 [(2, 83, b0), sy_I x, sy_I y] [] E h := (sy_aload hG a209_65 rfl (sy_getf hG a209_66 (by omega) k83 k62 (Or.inl rfl) (sy_iret hG a209_69 (Or.inl rfl) (hF _ _ _ ⟨⟨_, rfl⟩, rfl, rfl⟩))))
  have t70 : G 70 [(2, 83, b0), sy_I x, sy_I y] [] E h := (sy_aload hG a209_70 rfl (sy_getf hG a209_71 (by omega) k83 k5 (Or.inr rfl) (sy_push (y := 24) hG a209_74 rfl (sy_ald hG a209_76 (by omega) k112 (by omega) (i := 24) (by omega) rfl (sy_iret hG a209_77 (Or.inl rfl) (hF _ _ _ ⟨⟨_, rfl⟩, rfl, rfl⟩))))))
  have t78 : G 78 [(2, 83, b0), sy_I x, sy_I y] [] E h := (sy_aload hG a209_78 rfl (sy_getf hG a209_79 (by omega) k83 k63 (Or.inl rfl) (sy_iret hG a209_82 (Or.inl rfl) (hF _ _ _ ⟨⟨_, rfl⟩, rfl, rfl⟩))))
  have t83 : G 83 [(2, 83, b0), sy_I x, sy_I y] [] E h := (sy_aload hG a209_83 rfl (sy_getf hG a209_84 (by omega) k83 k64 (Or.inl rfl) (sy_iret hG a209_87 (Or.inl rfl) (hF _ _ _ ⟨⟨_, rfl⟩, rfl, rfl⟩))))
  have t88 : G 88 [(2, 83, b0), sy_I x, sy_I y] [] E h := (sy_aload hG a209_88 rfl (sy_getf hG a209_89 (by omega) k83 k65 (Or.inl rfl) (sy_iret hG a209_92 (Or.inl rfl) (hF _ _ _ ⟨⟨_, rfl⟩, rfl, rfl⟩))))
  have t93 : G 93 [(2, 83, b0), sy_I x, sy_I y] [] E h := (sy_iload hG a209_93 rfl (sy_iret hG a209_94 (Or.inl rfl) (hF _ _ _ ⟨⟨_, rfl⟩, rfl, rfl⟩)))
  exact sy_iload hG a209_0 rfl (sy_sw hG a209_1 (e2_fa (P := fun p : Nat × Nat => G p.2 [(2, 83, b0), sy_I x, sy_I y] [] E h) t83 (e2_fa (P := fun p : Nat × Nat => G p.2 [(2, 83, b0), sy_I x, sy_I y] [] E h) t88 (e2_fa (P := fun p : Nat × Nat => G p.2 [(2, 83, b0), sy_I x, sy_I y] [] E h) t60 (e2_fa (P := fun p : Nat × Nat => G p.2 [(2, 83, b0), sy_I x, sy_I y] [] E h) t78 (e2_fa (P := fun p : Nat × Nat => G p.2 [(2, 83, b0), sy_I x, sy_I y] [] E h) t65 (e2_fa (P := fun p : Nat × Nat => G p.2 [(2, 83, b0), sy_I x, sy_I y] [] E h) t70 e2_fz)))))) t93)
theorem rf_isLetter (hen : en_ok) {l : Launch} {x : Int32} {E : e2_E} {h : ev_H} : sy_C l 1 171 [sy_I x] E h (fun v E' h' => ((rf_L x ∧ v = sy_I 1) ∨ (¬ rf_L x ∧ v = sy_I 0)) ∧ E' = E ∧ h' = h) := by
  refine sy_con (D := 0) (C := evd_171) (X := hx_171) [] hen ei_171 hxe_171 (Nat.le_of_ble_eq_true rfl) fun d' F G hd' hF hG => ?_
  show G 0 [sy_I x] [] E h
  have k97 : ev_key 97 = 2147483745 := by decide +kernel
  have k122 : ev_key 122 = 2147483770 := by decide +kernel
  have no : ¬ rf_L x → G 16 [sy_I x] [] E h := fun hn => sy_push (y := 0) hG a171_16 rfl (sy_iret hG a171_17 (Or.inr ⟨rfl, Or.inl rfl⟩) (hF _ _ _ ⟨Or.inr ⟨hn, rfl⟩, rfl, rfl⟩))
  refine sy_iload hG a171_0 rfl (sy_push (y := 97) hG a171_1 rfl (sy_icmp hG a171_3 (fun z => no fun hL => ?_) (fun z1 => sy_iload hG a171_6 rfl (sy_push (y := 122) hG a171_7 rfl (sy_icmp hG a171_9 (fun z => no fun hL => ?_) (fun z2 => sy_push (y := 1) hG a171_12 rfl (sy_goto hG a171_13 (sy_iret hG a171_17 (Or.inr ⟨rfl, Or.inr rfl⟩) (hF _ _ _ ⟨Or.inl ⟨⟨?_, ?_⟩, rfl⟩, rfl, rfl⟩)))))))))
  · have z := ev_key_ltI.mp (show x < 97 from z)
    have := hL.1
    omega
  · have z := ev_key_ltI.mp (show 122 < x from z)
    have := hL.2
    omega
  · have : ¬ ev_key x < ev_key 97 := fun z => z1 (ev_key_ltI.mpr z)
    omega
  · have : ¬ ev_key 122 < ev_key x := fun z => z2 (ev_key_ltI.mpr z)
    omega
-- comes, on exact heaps: the pile alone changes
set_option maxHeartbeats 4000000 in
theorem rf_comes (hen : en_ok) {l : Launch} {b0 b rr fr L : Nat} {lo : List ev_V} {C N Fr To w p0 : Nat → Int32} {E : e2_E} {h0 : ev_H} (hb : b < 2) (hr : rr < 2) (hO : rf_O h0 lo b) (k112 : ev_hg h0 112 = (50, sy_R 26 w)) (k107 : ev_hg h0 107 = (50, sy_R 1120 C)) (k108 : ev_hg h0 108 = (50, sy_R 1120 N)) (k101 : ev_hg h0 101 = (50, sy_R 4 Fr)) (k102 : ev_hg h0 102 = (50, sy_R 4 To)) (k111 : ev_hg h0 111 = (50, sy_R 60 p0)) (hF1 : Fr (2 * b + rr) = ev_i fr) (hT1 : To (2 * b + rr) = ev_i (fr + L)) (hfl : fr + L ≤ 1120) (hW : rf_W C fr L) :
    ∀ (d' : Nat) (F : e2_F) (G : sy_P), 1 ≤ d' → (∀ v E' h', (∃ x, v = sy_I x) ∧ E' = E ∧ (∃ p, ev_hg h' 111 = (50, sy_R 60 p)) ∧ (∀ k, k < 133 → k ≠ 111 → ev_hg h' k = ev_hg h0 k) → F v E' h' = true) → sy_St (sy_call l d') F e2x_210 G → G 0 (e2_al 5 [(2, 83, b0), sy_I (ev_i rr)]) [] E h0 := by
  intro d' F G hd' hF hG
  have hOO : ∀ h : ev_H, (∀ k, k < 133 → k ≠ 111 → ev_hg h k = ev_hg h0 k) → rf_O h lo b := fun h ho => ⟨by rw [ho 83 (by omega) (by omega)]; exact hO.1, hO.2⟩
  have ei2 : ∀ n, ev_i (n + 1) - 1 = ev_i n := sy_dec
  have loop : ∀ (j m : Nat), m + j = L → ∀ (h : ev_H) (p : Nat → Int32) (v4 : ev_V), ev_hg h 111 = (50, sy_R 60 p) → (∀ k, k < 133 → k ≠ 111 → ev_hg h k = ev_hg h0 k) → G 16 [(2, 83, b0), sy_I (ev_i rr), sy_I (ev_i (rf_h C fr m)), sy_I (ev_i (fr + m)), v4] [] E h := by
    intro j
    induction j with
    | zero =>
      intro m hm h p v4 hp ho
      obtain ⟨q83, q0, q48, q49, q52, q53, q56, q5, -⟩ := hOO h ho
      have q102 : ev_hg h 102 = (50, sy_R 4 To) := by rw [ho 102 (by omega) (by omega)]; exact k102
      refine sy_iload hG a210_16 rfl (sy_aload hG a210_17 rfl (sy_getf hG a210_18 (by omega) q83 q49 (Or.inr rfl) (sy_push (y := ev_i 2) hG a210_21 rfl (sy_aload hG a210_22 rfl (sy_getf hG a210_23 (by omega) q83 q0 (Or.inl rfl) (sy_bin2 hG a210_26 (sy_iload hG a210_27 rfl (sy_bin2 hG a210_28 ?_))))))))
      rw [show eb_mul (ev_i 2) (ev_i b) = ev_i (2 * b) from sy_mul 2 b, show eb_add (ev_i (2 * b)) (ev_i rr) = ev_i (2 * b + rr) from sy_add _ _]
      refine sy_ald hG a210_29 (by omega) q102 (by omega) (i := 2 * b + rr) (by omega) rfl ?_
      rw [hT1]
      refine sy_icmp hG a210_30 (fun _ => ?_) (fun z => absurd ((sy_le (x := fr + L) (y := fr + m) (by omega) (by omega)).mpr (by omega)) z)
      exact sy_aload hG a210_143 rfl (sy_getf hG a210_144 (by omega) q83 q56 (Or.inr rfl) (sy_push (y := ev_i 0) hG a210_147 rfl (sy_ald hG a210_148 (by omega) hp (by omega) (i := 0) (by omega) rfl (sy_iret hG a210_149 (Or.inl rfl) (hF _ _ _ ⟨⟨_, rfl⟩, rfl, ⟨p, hp⟩, ho⟩)))))
    | succ j ih =>
      intro m hm h p v4 hp ho
      have hOh := hOO h ho
      obtain ⟨q83, q0, q48, q49, q52, q53, q56, q5, -⟩ := hOO h ho
      have q102 : ev_hg h 102 = (50, sy_R 4 To) := by rw [ho 102 (by omega) (by omega)]; exact k102
      have q107 : ev_hg h 107 = (50, sy_R 1120 C) := by rw [ho 107 (by omega) (by omega)]; exact k107
      have q108 : ev_hg h 108 = (50, sy_R 1120 N) := by rw [ho 108 (by omega) (by omega)]; exact k108
      have q112 : ev_hg h 112 = (50, sy_R 26 w) := by rw [ho 112 (by omega) (by omega)]; exact k112
      obtain ⟨w1, w2, w3⟩ := hW m (by omega)
      have next : ∀ (n : Nat) (h : ev_H) (p : Nat → Int32) (v4 : ev_V), n = rf_h C fr (m + 1) → ev_hg h 111 = (50, sy_R 60 p) → (∀ k, k < 133 → k ≠ 111 → ev_hg h k = ev_hg h0 k) → G 137 [(2, 83, b0), sy_I (ev_i rr), sy_I (ev_i n), sy_I (ev_i (fr + m)), v4] [] E h := fun n h p v4 hn hp ho => by
        refine sy_iinc (y := 1) hG a210_137 rfl (x := ev_i (fr + m)) rfl rfl rfl (sy_goto hG a210_140 ?_)
        rw [show ev_i (fr + m) + 1 = ev_i (fr + (m + 1)) from sy_add (fr + m) 1, hn]
        exact ih (m + 1) (by omega) h p v4 hp ho
      have oth : ∀ c : ev_C, ∀ k, k < 133 → k ≠ 111 → ev_hg (ev_hs h 111 c) k = ev_hg h0 k := fun c k hk hn => rd_g (by omega) hk hn (ho k hk hn)
      refine sy_iload hG a210_16 rfl (sy_aload hG a210_17 rfl (sy_getf hG a210_18 (by omega) q83 q49 (Or.inr rfl) (sy_push (y := ev_i 2) hG a210_21 rfl (sy_aload hG a210_22 rfl (sy_getf hG a210_23 (by omega) q83 q0 (Or.inl rfl) (sy_bin2 hG a210_26 (sy_iload hG a210_27 rfl (sy_bin2 hG a210_28 ?_))))))))
      rw [show eb_mul (ev_i 2) (ev_i b) = ev_i (2 * b) from sy_mul 2 b, show eb_add (ev_i (2 * b)) (ev_i rr) = ev_i (2 * b + rr) from sy_add _ _]
      refine sy_ald hG a210_29 (by omega) q102 (by omega) (i := 2 * b + rr) (by omega) rfl ?_
      rw [hT1]
      refine sy_icmp hG a210_30 (fun z => absurd ((sy_le (x := fr + L) (y := fr + m) (by omega) (by omega)).mp z) (by omega)) (fun _ => ?_)
      refine sy_aload hG a210_33 rfl (sy_getf hG a210_34 (by omega) q83 q52 (Or.inr rfl) (sy_iload hG a210_37 rfl (sy_ald hG a210_38 (by omega) q107 (by omega) (i := fr + m) (by omega) rfl (sy_istore hG a210_39 rfl (Nat.le_of_ble_eq_true rfl) rfl (sy_iload (x := C (fr + m)) hG a210_41 rfl (sy_push (y := 126) hG a210_43 rfl (sy_icmp hG a210_45 (fun hc => ?_) (fun hc => ?_))))))))
      · have hc : ¬ C (fr + m) = 126 := hc
        refine sy_iload (x := C (fr + m)) hG a210_75 rfl (sy_stat (qs := [sy_I (C (fr + m))]) (r := []) hG a210_77 rfl rfl rfl (rf_isLetter hen) hd' (fun v E' h' hv => ?_))
        obtain ⟨hv, hE', hh'⟩ := hv
        subst hE'
        subst hh'
        rcases hv with ⟨hL, rfl⟩ | ⟨hL, rfl⟩
        · refine ⟨by show (0 : Nat) ≠ 12; decide, ?_⟩
          rw [sy_bhI]
          have hn60 := w2 hc hL
          have hh : rf_h C fr (m + 1) = rf_h C fr m + 1 := by
            show (if C (fr + m) = 126 then _ else @ite _ (rf_L (C (fr + m))) (Classical.propDecidable _) _ _) = _
            rw [if_neg hc, if_pos hL]
          refine sy_ifc hG a210_80 (fun z => absurd z (show ¬ ((1 : Int32) = 0) by decide)) (fun _ => ?_)
          refine sy_aload hG a210_83 rfl (sy_getf hG a210_84 (by omega) q83 q56 (Or.inr rfl) (sy_iload hG a210_87 rfl (sy_aload hG a210_88 rfl (sy_iload (x := C (fr + m)) hG a210_89 rfl (sy_aload hG a210_91 rfl (sy_getf hG a210_92 (by omega) q83 q53 (Or.inr rfl) (sy_iload hG a210_95 rfl (sy_ald hG a210_96 (by omega) q108 (by omega) (i := fr + m) (by omega) rfl (sy_virt (qs := [sy_I (N (fr + m)), sy_I (C (fr + m))]) (r := [sy_I (ev_i (rf_h C fr m)), (2, 111, 0)]) hG a210_97 rfl rfl (by omega) q83 rfl (rf_asked hen hOh q112) hd' (fun v E' h' hv => ?_))))))))))
          obtain ⟨⟨x, rfl⟩, hE', hh'⟩ := hv
          subst hE'
          subst hh'
          refine ⟨by show (0 : Nat) ≠ 12; decide, ?_⟩
          rw [sy_bhI]
          refine sy_iast hG a210_100 (by omega) hp (by omega) (i := rf_h C fr m) hn60 rfl (sy_iinc (y := 1) hG a210_101 rfl (x := ev_i (rf_h C fr m)) rfl rfl rfl (sy_goto hG a210_104 ?_))
          rw [show ev_i (rf_h C fr m) + 1 = ev_i (rf_h C fr m + 1) from sy_add _ 1]
          exact next _ _ _ _ hh.symm (rd_e (by omega)) (oth _)
        · refine ⟨by show (0 : Nat) ≠ 12; decide, ?_⟩
          rw [sy_bhI]
          have hn2 := w3 hc hL
          obtain ⟨n, hn⟩ : ∃ n, rf_h C fr m = n + 2 := ⟨rf_h C fr m - 2, by omega⟩
          have hn61 : n + 2 ≤ 60 := by
            have hle : ∀ k, k ≤ m → rf_h C fr k ≤ 60 := fun k => by
              induction k with
              | zero => intro _; exact Nat.zero_le _
              | succ k ihk =>
                intro hk
                have h1 := ihk (by omega)
                obtain ⟨-, v2, -⟩ := hW k (by omega)
                show (if C (fr + k) = 126 then rf_h C fr k else @ite _ (rf_L (C (fr + k))) (Classical.propDecidable _) (rf_h C fr k + 1) (rf_h C fr k - 1)) ≤ 60
                by_cases c1 : C (fr + k) = 126
                · rw [if_pos c1]; exact h1
                · rw [if_neg c1]
                  by_cases c2 : rf_L (C (fr + k))
                  · rw [if_pos c2]; have := v2 c1 c2; omega
                  · rw [if_neg c2]; omega
            have := hle m (Nat.le_refl _)
            omega
          have hh : rf_h C fr (m + 1) = n + 1 := by
            show (if C (fr + m) = 126 then _ else @ite _ (rf_L (C (fr + m))) (Classical.propDecidable _) _ _) = _
            rw [if_neg hc, if_neg hL, hn]
            omega
          rw [hn]
          refine sy_ifc hG a210_80 (fun _ => ?_) (fun z => absurd rfl z)
          refine sy_iinc (y := -1) hG a210_107 sy_m1 (x := ev_i (n + 2)) rfl rfl rfl ?_
          rw [sy_decN (n + 1)]
          refine sy_aload hG a210_110 rfl (sy_getf hG a210_111 (by omega) q83 q56 (Or.inr rfl) (sy_iload (x := ev_i (n + 1)) hG a210_114 rfl (sy_push (y := 1) hG a210_115 rfl (sy_bin2 hG a210_116 ?_))))
          rw [show eb_sub (ev_i (n + 1)) 1 = ev_i n from sy_dec n]
          refine sy_iload (x := C (fr + m)) hG a210_117 rfl (sy_aload hG a210_119 rfl (sy_getf hG a210_120 (by omega) q83 q56 (Or.inr rfl) (sy_iload (x := ev_i (n + 1)) hG a210_123 rfl (sy_push (y := 1) hG a210_124 rfl (sy_bin2 hG a210_125 ?_)))))
          rw [show eb_sub (ev_i (n + 1)) 1 = ev_i n from sy_dec n]
          refine sy_ald hG a210_126 (by omega) hp (by omega) (i := n) (by omega) rfl (sy_aload hG a210_127 rfl (sy_getf hG a210_128 (by omega) q83 q56 (Or.inr rfl) (sy_iload (x := ev_i (n + 1)) hG a210_131 rfl (sy_ald hG a210_132 (by omega) hp (by omega) (i := n + 1) (by omega) rfl (sy_stat (qs := [sy_I (p (n + 1)), sy_I (p n), sy_I (C (fr + m))]) (r := [sy_I (ev_i n), (2, 111, 0)]) hG a210_133 rfl rfl rfl (rf_two hen) hd' (fun v E' h' hv => ?_))))))
          obtain ⟨⟨x, rfl⟩, hE', hh'⟩ := hv
          subst hE'
          subst hh'
          refine ⟨by show (0 : Nat) ≠ 12; decide, ?_⟩
          rw [sy_bhI]
          exact sy_iast hG a210_136 (by omega) hp (by omega) (i := n) (by omega) rfl (next _ _ _ _ hh.symm (rd_e (by omega)) (oth _))
      · have hc : C (fr + m) = 126 := Classical.byContradiction hc
        have hn1 := w1 hc
        obtain ⟨n, hn⟩ : ∃ n, rf_h C fr m = n + 1 := ⟨rf_h C fr m - 1, by omega⟩
        have hn60 : n < 60 := by
          have hle : ∀ k, k ≤ m → rf_h C fr k ≤ 60 := fun k => by
            induction k with
            | zero => intro _; exact Nat.zero_le _
            | succ k ihk =>
              intro hk
              have h1 := ihk (by omega)
              obtain ⟨-, v2, -⟩ := hW k (by omega)
              show (if C (fr + k) = 126 then rf_h C fr k else @ite _ (rf_L (C (fr + k))) (Classical.propDecidable _) (rf_h C fr k + 1) (rf_h C fr k - 1)) ≤ 60
              by_cases c1 : C (fr + k) = 126
              · rw [if_pos c1]; exact h1
              · rw [if_neg c1]
                by_cases c2 : rf_L (C (fr + k))
                · rw [if_pos c2]; have := v2 c1 c2; omega
                · rw [if_neg c2]; omega
          have := hle m (Nat.le_refl _)
          omega
        have hh : rf_h C fr (m + 1) = n + 1 := by
          show (if C (fr + m) = 126 then _ else @ite _ (rf_L (C (fr + m))) (Classical.propDecidable _) _ _) = _
          rw [if_pos hc, hn]
        rw [hn]
        refine sy_aload hG a210_48 rfl (sy_getf hG a210_49 (by omega) q83 q56 (Or.inr rfl) (sy_iload (x := ev_i (n + 1)) hG a210_52 rfl (sy_push (y := 1) hG a210_53 rfl (sy_bin2 hG a210_54 ?_))))
        rw [show eb_sub (ev_i (n + 1)) 1 = ev_i n from sy_dec n]
        refine sy_aload hG a210_55 rfl (sy_getf hG a210_56 (by omega) q83 q56 (Or.inr rfl) (sy_iload (x := ev_i (n + 1)) hG a210_59 rfl (sy_push (y := 1) hG a210_60 rfl (sy_bin2 hG a210_61 ?_))))
        rw [show eb_sub (ev_i (n + 1)) 1 = ev_i n from sy_dec n]
        have st : ∀ x : Int32, G 71 [(2, 83, b0), sy_I (ev_i rr), sy_I (ev_i (n + 1)), sy_I (ev_i (fr + m)), sy_I (C (fr + m))] [sy_I x, sy_I (ev_i n), (2, 111, 0)] E h := fun x => sy_iast hG a210_71 (by omega) hp (by omega) (i := n) hn60 rfl (sy_goto hG a210_72 (next _ _ _ _ hh.symm (rd_e (by omega)) (oth _)))
        exact sy_ald hG a210_62 (by omega) hp (by omega) (i := n) hn60 rfl (sy_ifc hG a210_63 (fun _ => sy_push (y := 0) hG a210_70 rfl (st 0)) (fun _ => sy_push (y := 1) hG a210_66 rfl (sy_goto hG a210_67 (st 1))))
  obtain ⟨q83, q0, q48, q49, q52, q53, q56, q5, -⟩ := hO
  show G 0 [(2, 83, b0), sy_I (ev_i rr), (9, 0, 0), (9, 0, 0), (9, 0, 0)] [] E h0
  refine sy_push (y := ev_i 0) hG a210_0 rfl (sy_istore hG a210_1 rfl (Nat.le_of_ble_eq_true rfl) rfl (sy_aload hG a210_2 rfl (sy_getf hG a210_3 (by omega) q83 q48 (Or.inr rfl) (sy_push (y := ev_i 2) hG a210_6 rfl (sy_aload hG a210_7 rfl (sy_getf hG a210_8 (by omega) q83 q0 (Or.inl rfl) (sy_bin2 hG a210_11 (sy_iload hG a210_12 rfl (sy_bin2 hG a210_13 ?_)))))))))
  rw [show eb_mul (ev_i 2) (ev_i b) = ev_i (2 * b) from sy_mul 2 b, show eb_add (ev_i (2 * b)) (ev_i rr) = ev_i (2 * b + rr) from sy_add _ _]
  refine sy_ald hG a210_14 (by omega) k101 (by omega) (i := 2 * b + rr) (by omega) rfl (sy_istore hG a210_15 rfl (Nat.le_of_ble_eq_true rfl) rfl ?_)
  rw [hF1]
  exact loop L 0 (by omega) h0 p0 _ k111 fun _ _ _ => rfl

