/-! THE LAW'S START: the two texts -/
def lw_tm : Nat → Term
  | 0 => .string "MeadowSigns$Tape" 63
  | _ => .string "MeadowSigns$Tape" 73
def lw_gl : List Cond := flatC (Cond.and given_1 narrow_1)
def lw_go : Nat → Nat
  | 0 => 9
  | _ => 104
set_option maxRecDepth 1000000 in
theorem lw_str_a : ∀ i, i < 2 → (ev_at (Cond.exactly (lw_tm i) "java/lang/String") lw_gl (lw_go i) && (ev_at (Cond.eq (.field (lw_tm i) "java/lang/String" "coder" "B") (.int 0)) lw_gl (lw_go i + 1) && (ev_at (Cond.arrayOf (.field (lw_tm i) "java/lang/String" "value" "[B") .byte) lw_gl (lw_go i + 2) && ev_at (Cond.eq (.length (.field (lw_tm i) "java/lang/String" "value" "[B")) (.int (Int32.ofNat (e2_slen.getD i 0)))) lw_gl (lw_go i + 3)))) = true ∧ e2_slen.getD i 0 < 2 ^ 31 := by decide +kernel
set_option maxRecDepth 1000000 in
theorem lw_str_e : ∀ i, i < 2 → ∀ j, j < e2_slen.getD i 0 → ev_at (Cond.eq (.elem (.field (lw_tm i) "java/lang/String" "value" "[B") (.int (Int32.ofNat j))) (.int ((e2_sbyt.getD i []).getD j 0))) lw_gl (lw_go i + 4 + j) = true := by decide +kernel
theorem lw_str_d : ev_at (Cond.not (Cond.eq (lw_tm 0) (lw_tm 1))) lw_gl 119 = true := by decide +kernel
theorem lw_str_4 : ev_at (Cond.eq (.static "java/lang/String" "COMPACT_STRINGS" "Z") (.int 1)) lw_gl 4 = true := by decide +kernel
theorem lw_str_5 : ev_at (Cond.isRef (.static "jdk/internal/util/Preconditions" "SIOOBE_FORMATTER" "Ljava/util/function/BiFunction;")) lw_gl 5 = true := by decide +kernel
theorem lw_w1 : Cond.laysStatic "java/lang/String" "COMPACT_STRINGS" "Z" ∈ lw_tbl := ev_tb_in (c := 3) (ev_at_in (n := 53) (by decide +kernel))
theorem lw_w2 : Cond.initialized "java/lang/String" ∈ lw_tbl := ev_tb_in (c := 1) (ev_at_in (n := 13) (by decide +kernel))
theorem lw_w3 : Cond.laysStatic "jdk/internal/util/Preconditions" "SIOOBE_FORMATTER" "Ljava/util/function/BiFunction;" ∈ lw_tbl := ev_tb_in (c := 3) (ev_at_in (n := 69) (by decide +kernel))
theorem lw_w4 : Cond.initialized "jdk/internal/util/Preconditions" ∈ lw_tbl := ev_tb_in (c := 1) (ev_at_in (n := 15) (by decide +kernel))
theorem lw_w5 : Cond.stringRef "MeadowSigns$Tape" 63 e2_tx0 ∈ lw_tbl := ev_tb_in (c := 3) (ev_at_in (n := 43) (by decide +kernel))
theorem lw_w6 : Cond.stringRef "MeadowSigns$Tape" 73 e2_tx1 ∈ lw_tbl := ev_tb_in (c := 3) (ev_at_in (n := 104) (by decide +kernel))
theorem lw_strings {s : State} {b : Nat} (hts : ∀ w ∈ lw_tbl, w.before #[Value.ref b] s = true) (hgv : (Cond.and given_1 narrow_1).before #[Value.ref b] s = true) : e2_St (fun q => s.heap.size ≤ q) s s.heap := by
  have hs : ∀ {w : Cond} {n : Nat}, ev_at w lw_gl n = true → w.before #[Value.ref b] s = true := fun h => flat_of_before _ hgv _ (ev_at_in h)
  have hA : ∀ a : Nat, a < s.heap.size → ¬ (fun q : Nat => s.heap.size ≤ q) a := fun a h => Nat.not_le.mpr h
  have hd := hs lw_str_d
  have ha : ∀ i, i < 2 → (ev_at (Cond.exactly (lw_tm i) "java/lang/String") lw_gl (lw_go i) = true ∧ ev_at (Cond.eq (.field (lw_tm i) "java/lang/String" "coder" "B") (.int 0)) lw_gl (lw_go i + 1) = true ∧ ev_at (Cond.arrayOf (.field (lw_tm i) "java/lang/String" "value" "[B") .byte) lw_gl (lw_go i + 2) = true ∧ ev_at (Cond.eq (.length (.field (lw_tm i) "java/lang/String" "value" "[B")) (.int (Int32.ofNat (e2_slen.getD i 0)))) lw_gl (lw_go i + 3) = true) := fun i hi => by
    have := (lw_str_a i hi).1
    simp only [Bool.and_eq_true] at this
    exact this
  obtain ⟨adK, adV, h1, h2⟩ := vk_Sof (args := #[Value.ref b]) (s := s) (N := 2) (tm := lw_tm) (len := e2_slen) (byt := e2_sbyt) (A := fun q : Nat => s.heap.size ≤ q) (fun i hi => (lw_str_a i hi).2) (fun i hi => hs (ha i hi).1) (fun i hi => hs (ha i hi).2.1) (fun i hi => hs (ha i hi).2.2.1) (fun i hi => hs (ha i hi).2.2.2) (fun i hi j hj => hs (lw_str_e i hi j hj)) (fun i j hi hj hij => by
    rcases (show i = 0 ∧ j = 1 ∨ i = 1 ∧ j = 0 by omega) with ⟨rfl, rfl⟩ | ⟨rfl, rfl⟩
    · exact Or.inl hd
    · exact Or.inr hd) hA
  exact ⟨va_Zof (hts _ lw_w1) (hts _ lw_w2) (va_eqi (hs lw_str_4)) hA, va_Zqof (hts _ lw_w3) (hts _ lw_w4) (hs lw_str_5) hA, adK, adV, h1, vk_R.of (hts _ lw_w5) (h2 0 (by omega)), vk_R.of (hts _ lw_w6) (h2 1 (by omega))⟩
