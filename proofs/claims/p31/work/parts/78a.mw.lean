/-! THE REFERENCE'S MEADOW ON EXACT HEAPS: ints as integers, the object as the list of its parts, rows as functions; one lemma an instruction (as sy_, part 51), longs made exact where they come up -/
def mw_i (z : Int) : ev_V := sy_I (Int32.ofInt z)
def mw_n (z : Int) : Int := (Int32.ofInt z).toInt
theorem mw_I (x : Int32) : sy_I x = mw_i x.toInt := by unfold mw_i; rw [Int32.ofInt_toInt]
theorem mw_rI (x : Int32) : -2147483648 ≤ x.toInt ∧ x.toInt < 2147483648 := by
  have h1 := Int32.le_toInt x
  have h2 := Int32.toInt_lt x
  omega
theorem mw_rn (z : Int) : -2147483648 ≤ mw_n z ∧ mw_n z < 2147483648 := mw_rI _
theorem mw_in (z : Int) : mw_i z = mw_i (mw_n z) := mw_I _
theorem mw_nn {z : Int} (h : -2147483648 ≤ z ∧ z < 2147483648) : mw_n z = z := Int32.toInt_ofInt_of_le (by omega) (by omega)
theorem mw_lt {a b : Int} (ra : -2147483648 ≤ a ∧ a < 2147483648) (rb : -2147483648 ≤ b ∧ b < 2147483648) : Int32.ofInt a < Int32.ofInt b ↔ a < b := by
  rw [Int32.lt_iff_toInt_lt, show (Int32.ofInt a).toInt = a from mw_nn ra, show (Int32.ofInt b).toInt = b from mw_nn rb]
theorem mw_le {a b : Int} (ra : -2147483648 ≤ a ∧ a < 2147483648) (rb : -2147483648 ≤ b ∧ b < 2147483648) : Int32.ofInt a ≤ Int32.ofInt b ↔ a ≤ b := by
  rw [Int32.le_iff_toInt_le, show (Int32.ofInt a).toInt = a from mw_nn ra, show (Int32.ofInt b).toInt = b from mw_nn rb]
theorem mw_eq {a b : Int} (ra : -2147483648 ≤ a ∧ a < 2147483648) (rb : -2147483648 ≤ b ∧ b < 2147483648) : Int32.ofInt a = Int32.ofInt b ↔ a = b := by
  rw [← Int32.toInt_inj, show (Int32.ofInt a).toInt = a from mw_nn ra, show (Int32.ofInt b).toInt = b from mw_nn rb]
theorem mw_e0 : (0 : Int32) = Int32.ofInt 0 := by decide +kernel
theorem mw_r0 : -2147483648 ≤ (0 : Int) ∧ (0 : Int) < 2147483648 := by omega
theorem mw_ix {i : Int} (h : 0 ≤ i ∧ i < 2147483648) : Int32.ofInt i = ev_i i.toNat := by
  obtain ⟨n, rfl⟩ := Int.eq_ofNat_of_zero_le h.1
  exact Int32.ofInt_eq_ofNat
theorem mw_cm10000 : ((0, 4294957296, 0) : ev_V) = mw_i (-10000) := by decide +kernel
theorem mw_cm99 : ((0, 4294967197, 0) : ev_V) = mw_i (-99) := by decide +kernel
theorem mw_cm2 : ((0, 4294967294, 0) : ev_V) = mw_i (-2) := by decide +kernel
theorem mw_cm1 : ((0, 4294967295, 0) : ev_V) = mw_i (-1) := by decide +kernel
theorem mw_c0 : ((0, 0, 0) : ev_V) = mw_i 0 := by decide +kernel
theorem mw_c1 : ((0, 1, 0) : ev_V) = mw_i 1 := by decide +kernel
theorem mw_c2 : ((0, 2, 0) : ev_V) = mw_i 2 := by decide +kernel
theorem mw_c3 : ((0, 3, 0) : ev_V) = mw_i 3 := by decide +kernel
theorem mw_c4 : ((0, 4, 0) : ev_V) = mw_i 4 := by decide +kernel
theorem mw_c5 : ((0, 5, 0) : ev_V) = mw_i 5 := by decide +kernel
theorem mw_c6 : ((0, 6, 0) : ev_V) = mw_i 6 := by decide +kernel
theorem mw_c7 : ((0, 7, 0) : ev_V) = mw_i 7 := by decide +kernel
theorem mw_c8 : ((0, 8, 0) : ev_V) = mw_i 8 := by decide +kernel
theorem mw_c9 : ((0, 9, 0) : ev_V) = mw_i 9 := by decide +kernel
theorem mw_c10 : ((0, 10, 0) : ev_V) = mw_i 10 := by decide +kernel
theorem mw_c12 : ((0, 12, 0) : ev_V) = mw_i 12 := by decide +kernel
theorem mw_c16 : ((0, 16, 0) : ev_V) = mw_i 16 := by decide +kernel
theorem mw_c20 : ((0, 20, 0) : ev_V) = mw_i 20 := by decide +kernel
theorem mw_c24 : ((0, 24, 0) : ev_V) = mw_i 24 := by decide +kernel
theorem mw_c25 : ((0, 25, 0) : ev_V) = mw_i 25 := by decide +kernel
theorem mw_c26 : ((0, 26, 0) : ev_V) = mw_i 26 := by decide +kernel
theorem mw_c30 : ((0, 30, 0) : ev_V) = mw_i 30 := by decide +kernel
theorem mw_c32 : ((0, 32, 0) : ev_V) = mw_i 32 := by decide +kernel
theorem mw_c37 : ((0, 37, 0) : ev_V) = mw_i 37 := by decide +kernel
theorem mw_c38 : ((0, 38, 0) : ev_V) = mw_i 38 := by decide +kernel
theorem mw_c40 : ((0, 40, 0) : ev_V) = mw_i 40 := by decide +kernel
theorem mw_c41 : ((0, 41, 0) : ev_V) = mw_i 41 := by decide +kernel
theorem mw_c42 : ((0, 42, 0) : ev_V) = mw_i 42 := by decide +kernel
theorem mw_c43 : ((0, 43, 0) : ev_V) = mw_i 43 := by decide +kernel
theorem mw_c45 : ((0, 45, 0) : ev_V) = mw_i 45 := by decide +kernel
theorem mw_c47 : ((0, 47, 0) : ev_V) = mw_i 47 := by decide +kernel
theorem mw_c48 : ((0, 48, 0) : ev_V) = mw_i 48 := by decide +kernel
theorem mw_c57 : ((0, 57, 0) : ev_V) = mw_i 57 := by decide +kernel
theorem mw_c59 : ((0, 59, 0) : ev_V) = mw_i 59 := by decide +kernel
theorem mw_c60 : ((0, 60, 0) : ev_V) = mw_i 60 := by decide +kernel
theorem mw_c61 : ((0, 61, 0) : ev_V) = mw_i 61 := by decide +kernel
theorem mw_c62 : ((0, 62, 0) : ev_V) = mw_i 62 := by decide +kernel
theorem mw_c71 : ((0, 71, 0) : ev_V) = mw_i 71 := by decide +kernel
theorem mw_c78 : ((0, 78, 0) : ev_V) = mw_i 78 := by decide +kernel
theorem mw_c90 : ((0, 90, 0) : ev_V) = mw_i 90 := by decide +kernel
theorem mw_c97 : ((0, 97, 0) : ev_V) = mw_i 97 := by decide +kernel
theorem mw_c99 : ((0, 99, 0) : ev_V) = mw_i 99 := by decide +kernel
theorem mw_c100 : ((0, 100, 0) : ev_V) = mw_i 100 := by decide +kernel
theorem mw_c108 : ((0, 108, 0) : ev_V) = mw_i 108 := by decide +kernel
theorem mw_c109 : ((0, 109, 0) : ev_V) = mw_i 109 := by decide +kernel
theorem mw_c110 : ((0, 110, 0) : ev_V) = mw_i 110 := by decide +kernel
theorem mw_c111 : ((0, 111, 0) : ev_V) = mw_i 111 := by decide +kernel
theorem mw_c112 : ((0, 112, 0) : ev_V) = mw_i 112 := by decide +kernel
theorem mw_c121 : ((0, 121, 0) : ev_V) = mw_i 121 := by decide +kernel
theorem mw_c122 : ((0, 122, 0) : ev_V) = mw_i 122 := by decide +kernel
theorem mw_c124 : ((0, 124, 0) : ev_V) = mw_i 124 := by decide +kernel
theorem mw_c126 : ((0, 126, 0) : ev_V) = mw_i 126 := by decide +kernel
theorem mw_c137 : ((0, 137, 0) : ev_V) = mw_i 137 := by decide +kernel
theorem mw_c160 : ((0, 160, 0) : ev_V) = mw_i 160 := by decide +kernel
theorem mw_c189 : ((0, 189, 0) : ev_V) = mw_i 189 := by decide +kernel
theorem mw_c255 : ((0, 255, 0) : ev_V) = mw_i 255 := by decide +kernel
theorem mw_c256 : ((0, 256, 0) : ev_V) = mw_i 256 := by decide +kernel
theorem mw_c560 : ((0, 560, 0) : ev_V) = mw_i 560 := by decide +kernel
theorem mw_c999 : ((0, 999, 0) : ev_V) = mw_i 999 := by decide +kernel
theorem mw_c1000 : ((0, 1000, 0) : ev_V) = mw_i 1000 := by decide +kernel
theorem mw_c1040 : ((0, 1040, 0) : ev_V) = mw_i 1040 := by decide +kernel
theorem mw_c1066 : ((0, 1066, 0) : ev_V) = mw_i 1066 := by decide +kernel
theorem mw_c1120 : ((0, 1120, 0) : ev_V) = mw_i 1120 := by decide +kernel
theorem mw_c1600 : ((0, 1600, 0) : ev_V) = mw_i 1600 := by decide +kernel
theorem mw_c1620 : ((0, 1620, 0) : ev_V) = mw_i 1620 := by decide +kernel
-- good states: longs may be made exact
def mw_S (call : e2_Call) (F : e2_F) (X : List e2_X) (G : sy_P) : Prop :=
  sy_St call F X G ∧ ∀ (pc : Nat) (al st : List ev_V) (E : e2_E) (h : ev_H), (∀ x : Nat, x < 18446744073709551616 → G pc al ((4, x, 0) :: st) E h) → G pc al ((5, 0, 0) :: st) E h
theorem mw_con {l : Launch} {k nL D : Nat} {C : List ev_I} {X : List e2_X} {as : List ev_V} {E : e2_E} {h : ev_H} {P : ev_V → e2_E → ev_H → Prop} (mk : List Nat) (hen : en_ok) (hm : e2_mOk k nL C) (hX : X = (e2_mark mk C).map e2_x) (hlen : (e2_exp as).length ≤ nL) (hg : ∀ (d : Nat) (F : e2_F) (G : sy_P), D ≤ d → (∀ v E h, P v E h → F v E h = true) → mw_S (sy_call l d) F X G → G 0 (e2_al nL as) [] E h) : sy_C l (D + 1) k as E h P := by
  intro d hd K hK M hM
  cases d with
  | zero => omega
  | succ d =>
    obtain ⟨M', hM', hn, hpl, hC⟩ := hm
    rw [hM] at hM'
    cases hM'
    subst hn
    refine e2_Met_ofG hpl hlen fun p e R s m args below meth c Q Dg cA A ads r0 ha => ?_
    refine hg d K _ (by omega) hK ⟨sy_gd mk hen hC hX ha, fun pc al st E h hx => ?_⟩
    intro r ws H locs ls vs hp hs hwo hS hfr hst
    obtain ⟨w, vs', rfl, h1, -, h3⟩ := hst.cons
    obtain ⟨x, rfl⟩ := (show ∃ x : Int64, w = .long x from h1)
    refine hx x.toUInt64.toNat (by have := x.toUInt64.toNat_lt; omega) r ws H locs ls _ hp hs hwo hS hfr ⟨?_, by show (4 : Nat) ≠ 7; decide, h3⟩
    show Value.long x = .long (Int64.ofNat x.toUInt64.toNat)
    rw [ex_long]
-- memory
def mw_o (B : Nat → Int) (fk a fp en tok num : Int) (nm : Nat) (cs wi pi ui : Int) : List ev_V := [mw_i (B 0), (2, 88, 0), (2, 115, 0), (2, 114, 0), (2, 86, 0), (2, 112, 0), mw_i (B 6), (2, 118, 0), (2, 120, 0), (2, 131, 0), (2, 91, 0), mw_i (B 11), (2, 123, 0), mw_i (B 13), mw_i (B 14), (2, 87, 0), (2, 84, 0), (2, 122, 0), (2, 100, 0), (2, 132, 0), mw_i (B 20), mw_i (B 21), mw_i (B 22), mw_i fk, mw_i a, (2, 93, 0), (2, 104, 0), mw_i (B 27), (2, 89, 0), (2, 92, 0), (2, 119, 0), (2, 90, 0), (2, 94, 0), (2, 103, 0), mw_i (B 34), mw_i (B 35), mw_i fp, mw_i en, mw_i tok, mw_i (B 39), (2, 85, 0), mw_i num, (4, nm, 0), (2, 95, 0), (2, 96, 0), (2, 97, 0), (2, 98, 0), (2, 99, 0), (2, 101, 0), (2, 102, 0), (2, 105, 0), (2, 106, 0), (2, 107, 0), (2, 108, 0), (2, 109, 0), (2, 110, 0), (2, 111, 0), mw_i cs, mw_i wi, mw_i pi, mw_i ui, mw_i (B 61), mw_i (B 62), mw_i (B 63), mw_i (B 64), mw_i (B 65), (2, 113, 0), (2, 116, 0), (2, 117, 0), (2, 121, 0), mw_i (B 70), mw_i (B 71), (2, 124, 0), (2, 125, 0), mw_i (B 74), (2, 126, 0), (2, 127, 0), (2, 128, 0), (2, 129, 0), (2, 130, 0)]
def mu1 (B : Nat → Int) (k : Nat) (z : Int) : Nat → Int := fun j => cond (Nat.beq j k) z (B j)
def mu (R : Nat → Int → Int) (k : Nat) (i z : Int) : Nat → Int → Int := fun k2 i2 => cond (Nat.beq k2 k) (if i2 = i then z else R k2 i2) (R k2 i2)
theorem mu_e {R : Nat → Int → Int} {k : Nat} {i z : Int} : mu R k i z k i = z := by unfold mu; rw [Nat.beq_refl, cond_true, if_pos rfl]
theorem mu_n {R : Nat → Int → Int} {k : Nat} {i i2 z : Int} (h : i2 ≠ i) : mu R k i z k i2 = R k i2 := by unfold mu; rw [Nat.beq_refl, cond_true, if_neg h]
def mw_T : List (Nat × Nat) := [(0, 0), (0, 0), (0, 0), (0, 0), (0, 0), (0, 0), (0, 0), (0, 0), (0, 0), (0, 0), (0, 0), (0, 0), (0, 0), (0, 0), (0, 0), (0, 0), (0, 0), (0, 0), (0, 0), (0, 0), (0, 0), (0, 0), (0, 0), (0, 0), (0, 0), (0, 0), (0, 0), (0, 0), (0, 0), (0, 0), (0, 0), (0, 0), (0, 0), (0, 0), (0, 0), (0, 0), (0, 0), (0, 0), (0, 0), (0, 0), (0, 0), (0, 0), (0, 0), (0, 0), (0, 0), (0, 0), (0, 0), (0, 0), (0, 0), (0, 0), (0, 0), (0, 0), (0, 0), (0, 0), (0, 0), (0, 0), (0, 0), (0, 0), (0, 0), (0, 0), (0, 0), (0, 0), (0, 0), (0, 0), (0, 0), (0, 0), (0, 0), (0, 0), (0, 0), (0, 0), (0, 0), (0, 0), (0, 0), (0, 0), (0, 0), (0, 0), (0, 0), (0, 0), (0, 0), (0, 0), (0, 0), (0, 0), (0, 0), (0, 0), (51, 1620), (51, 1600), (50, 2), (50, 2), (50, 2), (50, 2), (50, 2), (50, 2), (50, 2), (50, 2), (50, 2), (50, 8), (50, 16), (50, 16), (50, 16), (50, 16), (50, 16), (50, 4), (50, 4), (52, 2), (52, 4), (0, 0), (0, 0), (50, 1120), (50, 1120), (50, 90), (50, 90), (0, 0), (50, 26), (0, 0), (0, 0), (0, 0), (0, 0), (0, 0), (0, 0), (0, 0), (0, 0), (0, 0), (0, 0), (0, 0), (0, 0), (0, 0), (0, 0), (0, 0), (0, 0), (0, 0), (0, 0), (0, 0), (52, 3)]
set_option maxRecDepth 100000 in
theorem mw_T_len : mw_T.length = 133 := by decide +kernel
set_option maxRecDepth 100000 in
theorem mw_T_le : ∀ p ∈ mw_T, p.2 ≤ 1620 := by decide +kernel
def mw_row (k : Nat) (R : Nat → Int → Int) (n : Nat) : List ev_V := (List.range n).map fun (i : Nat) => mw_i (R k (i : Int))
theorem mw_row_R {k n : Nat} {R : Nat → Int → Int} : mw_row k R n = sy_R n (fun i => Int32.ofInt (R k (i : Int))) := rfl
def mw_V (h0 h : ev_H) (l : List ev_V) (R : Nat → Int → Int) : Prop :=
  ev_hg h 83 = (10, l) ∧ (∀ k t n, mw_T[k]? = some (t, n) → t ≠ 0 → ev_hg h k = (t, mw_row k R n)) ∧ (ev_hg h 105 = (53, [(0, 8, 0)]) ∧ ev_hg h 106 = (53, [(0, 16, 0)])) ∧ ∀ k n, k ≠ 83 → k ≠ 105 → k ≠ 106 → mw_T[k]? = some (0, n) → ev_hg h k = ev_hg h0 k
theorem mw_Tk {k t n : Nat} (h : mw_T[k]? = some (t, n)) : k < 133 ∧ n ≤ 1620 := ⟨by have := (List.getElem?_eq_some_iff.mp h).1; rw [mw_T_len] at this; exact this, mw_T_le _ (List.mem_of_getElem? h)⟩
theorem mw_V.o {h0 h : ev_H} {l l' : List ev_V} {R : Nat → Int → Int} (hV : mw_V h0 h l R) : mw_V h0 (ev_hs h 83 (10, l')) l' R := by
  obtain ⟨h1, h2, h3, h4⟩ := hV
  refine ⟨rd_e (by omega), fun k t n hT ht => ?_, ⟨rd_g (by omega) (by omega) (by omega) h3.1, rd_g (by omega) (by omega) (by omega) h3.2⟩, fun k n k1 k2 k3 hT => rd_g (by omega) (mw_Tk hT).1 k1 (h4 k n k1 k2 k3 hT)⟩
  refine rd_g (by omega) (mw_Tk hT).1 (fun z => ?_) (h2 k t n hT ht)
  subst z
  have : some (0, 0) = some (t, n) := hT
  injection this with this
  injection this with this
  exact ht this.symm
theorem mw_V.r {h0 h : ev_H} {l : List ev_V} {R : Nat → Int → Int} (hV : mw_V h0 h l R) {k t n : Nat} (hT : mw_T[k]? = some (t, n)) (ht : t ≠ 0) {i z : Int} (hi : 0 ≤ i) : mw_V h0 (ev_hs h k (t, sy_R n (sy_up (fun j => Int32.ofInt (R k (j : Int))) i.toNat (Int32.ofInt z)))) l (mu R k i z) := by
  obtain ⟨h1, h2, h3, h4⟩ := hV
  have hk := (mw_Tk hT).1
  have k83 : 83 ≠ k := fun z => by
    subst z
    have : some (0, 0) = some (t, n) := hT
    injection this with this
    injection this with this
    exact ht this.symm
  have k105 : 105 ≠ k := fun z => by
    subst z
    have : some (0, 0) = some (t, n) := hT
    injection this with this
    injection this with this
    exact ht this.symm
  have k106 : 106 ≠ k := fun z => by
    subst z
    have : some (0, 0) = some (t, n) := hT
    injection this with this
    injection this with this
    exact ht this.symm
  refine ⟨rd_g hk (by omega) k83 h1, fun k2 t2 n2 hT2 ht2 => ?_, ⟨rd_g hk (by omega) k105 h3.1, rd_g hk (by omega) k106 h3.2⟩, fun k2 n2 g1 g2 g3 hT2 => rd_g hk (mw_Tk hT2).1 (fun z => ?_) (h4 k2 n2 g1 g2 g3 hT2)⟩
  · by_cases hz : k2 = k
    · subst hz
      rw [hT] at hT2
      cases hT2
      rw [rd_e hk]
      refine congrArg (Prod.mk t) ?_
      unfold sy_R mw_row
      refine List.map_congr_left fun j _ => ?_
      show sy_I (if j = i.toNat then Int32.ofInt z else Int32.ofInt (R k2 (j : Int))) = mw_i (mu R k2 i z k2 (j : Int))
      by_cases hj : j = i.toNat
      · rw [if_pos hj, show (j : Int) = i by omega, mu_e]
        rfl
      · rw [if_neg hj, mu_n (by omega)]
        rfl
    · refine rd_g hk (mw_Tk hT2).1 hz ?_
      rw [h2 k2 t2 n2 hT2 ht2]
      refine congrArg (Prod.mk t2) ?_
      unfold mw_row
      refine List.map_congr_left fun j _ => ?_
      unfold mu
      rw [show Nat.beq k2 k = false from Bool.eq_false_iff.mpr fun z => hz (Nat.eq_of_beq_eq_true z), cond_false]
  · subst z
    rw [hT] at hT2
    injection hT2 with hT2
    injection hT2 with hT2
    exact ht hT2
section MW
variable {call : e2_Call} {F : e2_F} {X : List e2_X} {G : sy_P} {al al' st r : List ev_V} {E : e2_E} {h0 h : ev_H} {pc q t : Nat} {l l' : List ev_V} {R : Nat → Int → Int}
theorem mw_push (hG : mw_S call F X G) {n : Nat} {y : Int} (ha : sy_at X pc (o2_push (0, n, 0)) q) (hy : ((0, n, 0) : ev_V) = mw_i y) (hg : G q al (mw_i y :: st) E h) : G pc al st E h := by
  refine sy_go hG.1 ha ?_
  show sy_K (G q al ((0, n, 0) :: st) E h) = true
  rw [hy]
  exact sy_K_i hg
theorem mw_pushl (hG : mw_S call F X G) {n : Nat} (ha : sy_at X pc (o2_push (4, n, 0)) q) (hg : G q al ((4, n, 0) :: st) E h) : G pc al st E h := sy_go hG.1 ha (sy_K_i hg)
theorem mw_iload (hG : mw_S call F X G) {i : Nat} {z : Int} (ha : sy_at X pc (o2_iload i) q) (hx : al[i]? = some (mw_i z)) (hg : G q al (mw_i z :: st) E h) : G pc al st E h := sy_iload hG.1 ha hx hg
theorem mw_aload (hG : mw_S call F X G) {i a b : Nat} (ha : sy_at X pc (o2_aload i) q) (hx : al[i]? = some (2, a, b)) (hg : G q al ((2, a, b) :: st) E h) : G pc al st E h := sy_aload hG.1 ha hx hg
theorem mw_lload (hG : mw_S call F X G) {i n : Nat} (ha : sy_at X pc (o2_lload i) q) (hx : al[i]? = some (4, n, 0)) (hl : al.set i (4, n, 0) = al') (hg : G q al' ((4, n, 0) :: st) E h) : G pc al st E h := by
  refine sy_go hG.1 ha ?_
  unfold o2_lload
  rw [sy_get hx]
  show e2_setK al i (4, n, 0) _ = true
  rw [sy_set (List.getElem?_eq_some_iff.mp hx).1, hl]
  exact sy_K_i hg
theorem mw_lstore (hG : mw_S call F X G) {i n : Nat} (ha : sy_at X pc (o2_lstore i) q) (hn : e2_nl al i true = true) (hi : i + 1 < al.length) (hl : (al.set i (4, n, 0)).set (i + 1) (9, 0, 0) = al') (hg : G q al' r E h) : G pc al ((4, n, 0) :: r) E h := by
  refine sy_go hG.1 ha ?_
  show e2_nl al i (e2_setK al i (4, n, 0) _) = true
  rw [sy_nl hn, sy_set (by omega)]
  show e2_setK (al.set i (4, n, 0)) (i + 1) (9, 0, 0) _ = true
  rw [sy_set (by rw [List.length_set]; exact hi), hl]
  exact sy_K_i hg
theorem mw_istore (hG : mw_S call F X G) {i : Nat} {z : Int} (ha : sy_at X pc (o2_istore i) q) (hn : e2_nl al i true = true) (hi : i < al.length) (hl : al.set i (mw_i z) = al') (hg : G q al' r E h) : G pc al (mw_i z :: r) E h := sy_istore hG.1 ha hn hi hl hg
theorem mw_iinc (hG : mw_S call F X G) {i n : Nat} {z y : Int} (ha : sy_at X pc (o2_iinc i n) q) (hy : ((0, n, 0) : ev_V) = mw_i y) (hx : al[i]? = some (mw_i z)) (hn : e2_nl al i true = true) (hl : al.set i (mw_i (z + y)) = al') (hg : G q al' st E h) : G pc al st E h := by
  have hy2 : n = ev_u (Int32.ofInt y) := congrArg (fun v : ev_V => v.2.1) hy
  refine sy_iinc hG.1 ha hy2 hx hn ?_ hg
  rw [← hl, mw_i, Int32.ofInt_add]
theorem mw_bin (hG : mw_S call F X G) {o : Int32 → Int32 → Int32} {tr : ev_V → ev_V → Nat → Nat → Nat → Nat → ev_V} {a b c : Int} (ha : sy_at X pc (o2_bin o tr) q) (hc : o (Int32.ofInt a) (Int32.ofInt b) = Int32.ofInt c) (hg : G q al (mw_i c :: r) E h) : G pc al (mw_i b :: mw_i a :: r) E h :=
  sy_bin2 hG.1 ha (by rw [hc]; exact hg)
theorem mw_add (hG : mw_S call F X G) {tr : ev_V → ev_V → Nat → Nat → Nat → Nat → ev_V} {a b : Int} (ha : sy_at X pc (o2_bin eb_add tr) q) (hg : G q al (mw_i (a + b) :: r) E h) : G pc al (mw_i b :: mw_i a :: r) E h := mw_bin hG ha (Int32.ofInt_add a b).symm hg
theorem mw_sub (hG : mw_S call F X G) {tr : ev_V → ev_V → Nat → Nat → Nat → Nat → ev_V} {a b : Int} (ha : sy_at X pc (o2_bin eb_sub tr) q) (hg : G q al (mw_i (a - b) :: r) E h) : G pc al (mw_i b :: mw_i a :: r) E h := mw_bin hG ha (Int32.ofInt_sub a b).symm hg
theorem mw_mul (hG : mw_S call F X G) {tr : ev_V → ev_V → Nat → Nat → Nat → Nat → ev_V} {a b : Int} (ha : sy_at X pc (o2_bin eb_mul tr) q) (hg : G q al (mw_i (a * b) :: r) E h) : G pc al (mw_i b :: mw_i a :: r) E h := mw_bin hG ha (Int32.ofInt_mul a b).symm hg
theorem mw_any (hG : mw_S call F X G) {o : Int32 → Int32 → Int32} {tr : ev_V → ev_V → Nat → Nat → Nat → Nat → ev_V} {a b : Int} (ha : sy_at X pc (o2_bin o tr) q) (hg : G q al (mw_i (o (Int32.ofInt a) (Int32.ofInt b)).toInt :: r) E h) : G pc al (mw_i b :: mw_i a :: r) E h := mw_bin hG ha (Int32.ofInt_toInt _).symm hg
theorem mw_neg (hG : mw_S call F X G) {tr : Nat → Nat → ev_V} {a : Int} (ha : sy_at X pc (o2_un eb_neg tr) q) (hg : G q al (mw_i (-a) :: r) E h) : G pc al (mw_i a :: r) E h :=
  sy_un hG.1 ha (by rw [show eb_neg (Int32.ofInt a) = Int32.ofInt (-a) from (Int32.ofInt_neg a).symm]; exact hg)
theorem mw_dup (hG : mw_S call F X G) {v : ev_V} (ha : sy_at X pc o2_dup q) (hv : e2_isL v.1 = false) (hg : G q al (v :: v :: r) E h) : G pc al (v :: r) E h := sy_dup hG.1 ha hv hg
theorem mw_dup2 (hG : mw_S call F X G) {v w : ev_V} (ha : sy_at X pc o2_dup2 q) (hv : e2_isL v.1 = false) (hw : e2_isL w.1 = false) (hg : G q al (v :: w :: v :: w :: r) E h) : G pc al (v :: w :: r) E h := sy_dup2 hG.1 ha hv hw hg
theorem mw_goto (hG : mw_S call F X G) (ha : sy_ar X pc (o2_goto t)) (hg : G t al st E h) : G pc al st E h := sy_goto hG.1 ha hg
theorem mw_geti (hG : mw_S call F X G) {k b : Nat} {z : Int} (hV : mw_V h0 h l R) (ha : sy_at X pc (o2_getf 10 k) q) (hv : l[k]? = some (mw_i z)) (hg : G q al (mw_i z :: r) E h) : G pc al ((2, 83, b) :: r) E h := sy_getf hG.1 ha (by omega) hV.1 hv (Or.inl rfl) hg
theorem mw_geta (hG : mw_S call F X G) {k b a c : Nat} (hV : mw_V h0 h l R) (ha : sy_at X pc (o2_getf 10 k) q) (hv : l[k]? = some (2, a, c)) (hg : G q al ((2, a, c) :: r) E h) : G pc al ((2, 83, b) :: r) E h := sy_getf hG.1 ha (by omega) hV.1 hv (Or.inr rfl) hg
theorem mw_getl (hG : mw_S call F X G) {k b n : Nat} (hV : mw_V h0 h l R) (ha : sy_at X pc (o2_getf 10 k) q) (hv : l[k]? = some (4, n, 0)) (hg : G q al ((4, n, 0) :: r) E h) : G pc al ((2, 83, b) :: r) E h := by
  refine sy_go hG.1 ha ?_
  unfold o2_getf
  rw [sy_1c, sy_cell (by omega) hV.1, sy_if_t (Nat.beq_refl _), sy_get hv]
  exact sy_K_i hg
theorem mw_putf (hG : mw_S call F X G) {k b : Nat} {z : Int} (hV : mw_V h0 h l R) (ha : sy_at X pc (o2_putf 10 k 0) q) (hk : k < l.length) (hl : l.set k (mw_i z) = l') (hg : ∀ h', mw_V h0 h' l' R → G q al r E h') : G pc al (mw_i z :: (2, 83, b) :: r) E h := by
  refine sy_putf hG.1 ha (by omega) hV.1 hk (Or.inl rfl) ?_
  show G q al r E (ev_hs h 83 (10, l.set k (mw_i z)))
  rw [hl]
  exact hg _ hV.o
theorem mw_putl (hG : mw_S call F X G) {k b n : Nat} (hV : mw_V h0 h l R) (ha : sy_at X pc (o2_putf 10 k 3) q) (hk : k < l.length) (hl : l.set k (4, n, 0) = l') (hg : ∀ h', mw_V h0 h' l' R → G q al r E h') : G pc al ((4, n, 0) :: (2, 83, b) :: r) E h := by
  refine sy_go hG.1 ha ?_
  unfold o2_putf
  rw [sy_2c, sy_cell (by omega) hV.1, sy_if_t (Nat.beq_refl _)]
  show e2_put h 83 10 l k (4, n, 0) (fun h' => sy_K (G q al r E h')) = true
  unfold e2_put
  rw [sy_set hk, ev_tset_k, hl]
  exact sy_K_i (hg _ hV.o)
theorem mw_ald (hG : mw_S call F X G) {k n b : Nat} {i : Int} (hV : mw_V h0 h l R) (ha : sy_at X pc (o2_ald 50 50) q) (hT : mw_T[k]? = some (50, n)) (hi : 0 ≤ i ∧ i < n) (hg : G q al (mw_i (R k i) :: r) E h) : G pc al (mw_i i :: (2, k, b) :: r) E h := by
  have hk := mw_Tk hT
  refine sy_ald hG.1 ha hk.1 (hV.2.1 k 50 n hT (by omega)) (by omega) (i := i.toNat) (by omega) (mw_ix (by omega)) ?_
  rw [show ((i.toNat : Nat) : Int) = i by omega]
  exact hg
theorem mw_iast (hG : mw_S call F X G) {k n b : Nat} {i z : Int} (hV : mw_V h0 h l R) (ha : sy_at X pc o2_iast q) (hT : mw_T[k]? = some (50, n)) (hi : 0 ≤ i ∧ i < n) (hg : ∀ h', mw_V h0 h' l (mu R k i z) → G q al r E h') : G pc al (mw_i z :: mw_i i :: (2, k, b) :: r) E h := by
  have hk := mw_Tk hT
  exact sy_iast hG.1 ha hk.1 (hV.2.1 k 50 n hT (by omega)) (by omega) (i := i.toNat) (by omega) (mw_ix (by omega)) (hg _ (hV.r hT (by omega) hi.1))
theorem mw_bald (hG : mw_S call F X G) {k n b tg : Nat} {i : Int} (hV : mw_V h0 h l R) (ha : sy_at X pc (o2_ald 51 52) q) (hT : mw_T[k]? = some (tg, n)) (htg : tg = 51 ∨ tg = 52) (hi : 0 ≤ i ∧ i < n) (hg : G q al (mw_i (R k i) :: r) E h) : G pc al (mw_i i :: (2, k, b) :: r) E h := by
  have hk := mw_Tk hT
  have hc := hV.2.1 k tg n hT (by omega)
  refine sy_go hG.1 ha ?_
  unfold o2_ald
  rw [sy_el_f (show Nat.beq 51 50 = false from rfl)]
  unfold o2_ald0
  rw [sy_2c, sy_cell hk.1 hc, mw_i, sy_ix (i := i.toNat) (by omega) (mw_ix (by omega)), sy_el_t (show (Nat.ble 51 tg && Nat.ble tg 52) = true by rcases htg with rfl | rfl <;> rfl), sy_el_t (Nat.beq_refl _), mw_row_R, sy_get (sy_R_get (show i.toNat < n by omega))]
  rw [show ((i.toNat : Nat) : Int) = i by omega]
  exact sy_K_i hg
theorem mw_bast (hG : mw_S call F X G) {k n b tg : Nat} {i z : Int} (hV : mw_V h0 h l R) (ha : sy_at X pc o2_bast q) (hT : mw_T[k]? = some (tg, n)) (htg : (tg = 51 ∧ -128 ≤ z ∧ z ≤ 127) ∨ (tg = 52 ∧ 0 ≤ z ∧ z ≤ 1)) (hi : 0 ≤ i ∧ i < n) (hg : ∀ h', mw_V h0 h' l (mu R k i z) → G q al r E h') : G pc al (mw_i z :: mw_i i :: (2, k, b) :: r) E h := by
  have hk := mw_Tk hT
  have hc := hV.2.1 k tg n hT (by omega)
  have hkey : (ev_key (Int32.ofInt z) : Int) = z + 2147483648 := by rw [ev_key_int, show (Int32.ofInt z).toInt = z from mw_nn (by omega)]
  have hput := hg _ (hV.r hT (by omega) hi.1 (z := z))
  refine sy_go hG.1 ha ?_
  have hst : ∀ tg, (mw_T[k]? = some (tg, n)) → (ev_hg h k = (tg, mw_row k R n)) → e2_ast tg E h k tg (mw_row k R n) (mw_i i) (mw_i z) (fun h' => sy_K (G q al r E h')) = e2_put h k tg (mw_row k R n) i.toNat (mw_i z) (fun h' => sy_K (G q al r E h')) := fun tg _ _ => by
    unfold e2_ast
    rw [mw_i, sy_ix (i := i.toNat) (by omega) (mw_ix (by omega)), sy_el_t (Nat.beq_refl _), sy_el_t (Nat.beq_refl _)]
  have hp2 : e2_put h k tg (mw_row k R n) i.toNat (mw_i z) (fun h' => sy_K (G q al r E h')) = true := by
    unfold e2_put
    rw [mw_row_R, sy_set (by rw [sy_R_len]; omega), ev_tset_k, mw_i, sy_R_set]
    exact sy_K_i hput
  unfold o2_bast
  rw [sy_3c, sy_cell hk.1 hc]
  rcases htg with ⟨rfl, z1, z2⟩ | ⟨rfl, z1, z2⟩
  · rw [sy_el_t (show (Nat.beq 51 51 || Nat.beq 51 55) = true from rfl)]
    unfold e2_nar
    rw [mw_i, sy_rng, sy_el_t (by rw [sy_ble (by omega), sy_ble (by omega)]; rfl)]
    exact (hst 51 hT hc).trans hp2
  · rw [sy_el_f (show (Nat.beq 52 51 || Nat.beq 52 55) = false from rfl)]
    unfold e2_nar
    rw [mw_i, sy_rng, sy_el_t (by rw [sy_ble (by omega), sy_ble (by omega)]; rfl)]
    exact (hst 52 hT hc).trans hp2
theorem mw_53 (hV : mw_V h0 h l R) {k n : Nat} (hk : k = 105 ∧ n = 8 ∨ k = 106 ∧ n = 16) : k < 133 ∧ ev_hg h k = (53, [(0, n, 0)]) := by
  rcases hk with ⟨rfl, rfl⟩ | ⟨rfl, rfl⟩
  · exact ⟨by omega, hV.2.2.1.1⟩
  · exact ⟨by omega, hV.2.2.1.2⟩
theorem mw_lald (hG : mw_S call F X G) {k n b : Nat} {i : Int} (hV : mw_V h0 h l R) (ha : sy_at X pc o2_lald q) (hk : k = 105 ∧ n = 8 ∨ k = 106 ∧ n = 16) (hi : 0 ≤ i ∧ i < n) (hg : ∀ x, x < 18446744073709551616 → G q al ((4, x, 0) :: r) E h) : G pc al (mw_i i :: (2, k, b) :: r) E h := by
  refine sy_go hG.1 ha ?_
  unfold o2_lald
  rw [sy_2c, sy_cell (mw_53 hV hk).1 (mw_53 hV hk).2, sy_el_f (show Nat.beq 53 59 = false from rfl), sy_if_t (show Nat.beq 53 53 = true from rfl), mw_i, sy_ix (i := i.toNat) (by omega) (mw_ix (by omega))]
  show e2_if (Nat.blt i.toNat n) _ = true
  rw [sy_if_t (sy_blt (by omega))]
  exact sy_K_i (hG.2 _ _ _ _ _ hg)
theorem mw_last (hG : mw_S call F X G) {k n b x : Nat} {i : Int} (hV : mw_V h0 h l R) (ha : sy_at X pc o2_last q) (hk : k = 105 ∧ n = 8 ∨ k = 106 ∧ n = 16) (hi : 0 ≤ i ∧ i < n) (hg : G q al r E h) : G pc al ((4, x, 0) :: mw_i i :: (2, k, b) :: r) E h := by
  refine sy_go hG.1 ha ?_
  unfold o2_last
  rw [sy_3c, sy_cell (mw_53 hV hk).1 (mw_53 hV hk).2, sy_if_t (show Nat.beq 53 53 = true from rfl), sy_if_t (show e2_isL 4 = true from rfl), mw_i, sy_ix (i := i.toNat) (by omega) (mw_ix (by omega))]
  show e2_if (Nat.blt i.toNat n) _ = true
  rw [sy_if_t (sy_blt (by omega))]
  exact sy_K_i hg
theorem mw_i2l (hG : mw_S call F X G) {z : Int} (ha : sy_at X pc o2_i2l q) (hg : ∀ x, x < 18446744073709551616 → G q al ((4, x, 0) :: r) E h) : G pc al (mw_i z :: r) E h := by
  refine sy_go hG.1 ha ?_
  show e2_if (e2_isI 0) _ = true
  rw [sy_if_t (show e2_isI 0 = true from rfl)]
  exact sy_K_i (hG.2 _ _ _ _ _ hg)
theorem mw_lsh (hG : mw_S call F X G) {x : Nat} {z : Int} (ha : sy_at X pc o2_lsh q) (hg : ∀ x, x < 18446744073709551616 → G q al ((4, x, 0) :: r) E h) : G pc al (mw_i z :: (4, x, 0) :: r) E h := by
  refine sy_go hG.1 ha ?_
  unfold o2_lsh
  rw [sy_2c, sy_if_t (show e2_isL 4 = true from rfl), sy_if_t (show e2_isI (mw_i z).1 = true from rfl)]
  exact sy_K_i (hG.2 _ _ _ _ _ hg)
theorem mw_l2 (hG : mw_S call F X G) {x y : Nat} (ha : sy_at X pc o2_l2 q) (hg : ∀ x, x < 18446744073709551616 → G q al ((4, x, 0) :: r) E h) : G pc al ((4, y, 0) :: (4, x, 0) :: r) E h := by
  refine sy_go hG.1 ha ?_
  unfold o2_l2
  rw [sy_2c, sy_if_t (show e2_isL 4 = true from rfl), sy_if_t (show e2_isL 4 = true from rfl)]
  exact sy_K_i (hG.2 _ _ _ _ _ hg)
theorem mw_lcmp (hG : mw_S call F X G) {x y : Nat} (ha : sy_at X pc o2_lcmp q) (hx : x < 18446744073709551616) (hy : y < 18446744073709551616) (hg : ∀ z : Int, (z = 0 ↔ x = y) → -1 ≤ z ∧ z ≤ 1 → G q al (mw_i z :: r) E h) : G pc al ((4, y, 0) :: (4, x, 0) :: r) E h := by
  refine sy_go hG.1 ha ?_
  unfold o2_lcmp
  rw [sy_2c]
  show e2_if (e2_isL 4) (e2_if (e2_isL 4) (e2_el (Nat.beq 4 6 && (Nat.beq 4 4 && Nat.blt y 18446744073709551616)) (sy_K (G q al ((14, x, y) :: r) E h)) (e2_el (Nat.beq 4 4 && (Nat.beq 4 4 && (Nat.blt x 18446744073709551616 && Nat.blt y 18446744073709551616))) (e2_el (Nat.beq x y) (sy_K (G q al ((0, 0, 0) :: r) E h)) (e2_if (sy_K (G q al ((0, 4294967295, 0) :: r) E h)) (sy_K (G q al ((0, 1, 0) :: r) E h)))) (sy_K (G q al ((11, 2147483647, 2147483649) :: r) E h))))) = true
  rw [sy_if_t (show e2_isL 4 = true from rfl), sy_if_t (show e2_isL 4 = true from rfl), sy_el_f (show (Nat.beq 4 6 && (Nat.beq 4 4 && Nat.blt y 18446744073709551616)) = false from rfl), sy_el_t (show (Nat.beq 4 4 && (Nat.beq 4 4 && (Nat.blt x 18446744073709551616 && Nat.blt y 18446744073709551616))) = true by rw [sy_blt hx, sy_blt hy]; rfl)]
  by_cases hz : x = y
  · subst hz
    rw [sy_el_t (Nat.beq_refl _)]
    have := hg 0 ⟨fun _ => rfl, fun _ => rfl⟩ (by omega)
    rw [← mw_c0] at this
    exact sy_K_i this
  · rw [sy_el_f (Bool.eq_false_iff.mpr fun z => hz (Nat.eq_of_beq_eq_true z))]
    have h1 := hg (-1) ⟨fun z => absurd z (by omega), fun z => absurd z hz⟩ (by omega)
    have h2 := hg 1 ⟨fun z => absurd z (by omega), fun z => absurd z hz⟩ (by omega)
    rw [← mw_cm1] at h1
    rw [← mw_c1] at h2
    rw [sy_if_t (sy_K_i h1)]
    exact sy_K_i h2
theorem mw_iret (hG : mw_S call F X G) {kd : Nat} {z : Int} (ha : sy_ar X pc (o2_iret kd)) (hkd : kd = 0 ∨ kd = 1 ∧ (z = 0 ∨ z = 1)) (hF : F (mw_i z) E h = true) : G pc al [mw_i z] E h :=
  sy_iret hG.1 ha (hkd.imp id fun w => ⟨w.1, w.2.imp (fun e => by rw [e, mw_e0]) fun e => by rw [e]; decide +kernel⟩) hF
theorem mw_lret (hG : mw_S call F X G) {x : Nat} (ha : sy_ar X pc (o2_iret 3)) (hF : F (4, x, 0) E h = true) : G pc al [(4, x, 0)] E h := sy_gr hG.1 ha hF
theorem mw_vret (hG : mw_S call F X G) (ha : sy_ar X pc o2_vret) (hF : F (9, 0, 0) E h = true) : G pc al [] E h := sy_vret hG.1 ha hF
theorem mw_icmp_lt (hG : mw_S call F X G) {a b : Int} (ha : sy_at X pc (o2_icmp .lt t) q) (ra : -2147483648 ≤ a ∧ a < 2147483648) (rb : -2147483648 ≤ b ∧ b < 2147483648) (h1 : a < b → G t al r E h) (h0 : b ≤ a → G q al r E h) : G pc al (mw_i b :: mw_i a :: r) E h := sy_icmp hG.1 ha (fun z => h1 ((mw_lt ra rb).mp z)) (fun z => h0 (by have : ¬ (a < b) := fun w => z ((mw_lt ra rb).mpr w); omega))
theorem mw_icmp_ge (hG : mw_S call F X G) {a b : Int} (ha : sy_at X pc (o2_icmp .ge t) q) (ra : -2147483648 ≤ a ∧ a < 2147483648) (rb : -2147483648 ≤ b ∧ b < 2147483648) (h1 : b ≤ a → G t al r E h) (h0 : a < b → G q al r E h) : G pc al (mw_i b :: mw_i a :: r) E h := sy_icmp hG.1 ha (fun z => h1 ((mw_le rb ra).mp z)) (fun z => h0 (by have : ¬ (b ≤ a) := fun w => z ((mw_le rb ra).mpr w); omega))
theorem mw_icmp_gt (hG : mw_S call F X G) {a b : Int} (ha : sy_at X pc (o2_icmp .gt t) q) (ra : -2147483648 ≤ a ∧ a < 2147483648) (rb : -2147483648 ≤ b ∧ b < 2147483648) (h1 : b < a → G t al r E h) (h0 : a ≤ b → G q al r E h) : G pc al (mw_i b :: mw_i a :: r) E h := sy_icmp hG.1 ha (fun z => h1 ((mw_lt rb ra).mp z)) (fun z => h0 (by have : ¬ (b < a) := fun w => z ((mw_lt rb ra).mpr w); omega))
theorem mw_icmp_le (hG : mw_S call F X G) {a b : Int} (ha : sy_at X pc (o2_icmp .le t) q) (ra : -2147483648 ≤ a ∧ a < 2147483648) (rb : -2147483648 ≤ b ∧ b < 2147483648) (h1 : a ≤ b → G t al r E h) (h0 : b < a → G q al r E h) : G pc al (mw_i b :: mw_i a :: r) E h := sy_icmp hG.1 ha (fun z => h1 ((mw_le ra rb).mp z)) (fun z => h0 (by have : ¬ (a ≤ b) := fun w => z ((mw_le ra rb).mpr w); omega))
theorem mw_icmp_eq (hG : mw_S call F X G) {a b : Int} (ha : sy_at X pc (o2_icmp .eq t) q) (ra : -2147483648 ≤ a ∧ a < 2147483648) (rb : -2147483648 ≤ b ∧ b < 2147483648) (h1 : a = b → G t al r E h) (h0 : a ≠ b → G q al r E h) : G pc al (mw_i b :: mw_i a :: r) E h := sy_icmp hG.1 ha (fun z => h1 ((mw_eq ra rb).mp z)) (fun z => h0 (fun w => z ((mw_eq ra rb).mpr w)))
theorem mw_icmp_ne (hG : mw_S call F X G) {a b : Int} (ha : sy_at X pc (o2_icmp .ne t) q) (ra : -2147483648 ≤ a ∧ a < 2147483648) (rb : -2147483648 ≤ b ∧ b < 2147483648) (h1 : a ≠ b → G t al r E h) (h0 : a = b → G q al r E h) : G pc al (mw_i b :: mw_i a :: r) E h := sy_icmp hG.1 ha (fun z => h1 fun w => z ((mw_eq ra rb).mpr w)) (fun z => h0 (Classical.byContradiction fun w => z fun u => w ((mw_eq ra rb).mp u)))
theorem mw_ifc_lt (hG : mw_S call F X G) {a : Int} (ha : sy_at X pc (o2_ifc .lt t) q) (ra : -2147483648 ≤ a ∧ a < 2147483648) (h1 : a < 0 → G t al r E h) (h0 : 0 ≤ a → G q al r E h) : G pc al (mw_i a :: r) E h := sy_ifc hG.1 ha (fun z => h1 ((mw_lt ra mw_r0).mp (by rw [← mw_e0]; exact z))) (fun z => h0 (by have : ¬ (a < 0) := fun w => z (by have u := (mw_lt ra mw_r0).mpr w; rw [← mw_e0] at u; exact u); omega))
theorem mw_ifc_ge (hG : mw_S call F X G) {a : Int} (ha : sy_at X pc (o2_ifc .ge t) q) (ra : -2147483648 ≤ a ∧ a < 2147483648) (h1 : 0 ≤ a → G t al r E h) (h0 : a < 0 → G q al r E h) : G pc al (mw_i a :: r) E h := sy_ifc hG.1 ha (fun z => h1 ((mw_le mw_r0 ra).mp (by rw [← mw_e0]; exact z))) (fun z => h0 (by have : ¬ (0 ≤ a) := fun w => z (by have u := (mw_le mw_r0 ra).mpr w; rw [← mw_e0] at u; exact u); omega))
theorem mw_ifc_gt (hG : mw_S call F X G) {a : Int} (ha : sy_at X pc (o2_ifc .gt t) q) (ra : -2147483648 ≤ a ∧ a < 2147483648) (h1 : 0 < a → G t al r E h) (h0 : a ≤ 0 → G q al r E h) : G pc al (mw_i a :: r) E h := sy_ifc hG.1 ha (fun z => h1 ((mw_lt mw_r0 ra).mp (by rw [← mw_e0]; exact z))) (fun z => h0 (by have : ¬ (0 < a) := fun w => z (by have u := (mw_lt mw_r0 ra).mpr w; rw [← mw_e0] at u; exact u); omega))
theorem mw_ifc_le (hG : mw_S call F X G) {a : Int} (ha : sy_at X pc (o2_ifc .le t) q) (ra : -2147483648 ≤ a ∧ a < 2147483648) (h1 : a ≤ 0 → G t al r E h) (h0 : 0 < a → G q al r E h) : G pc al (mw_i a :: r) E h := sy_ifc hG.1 ha (fun z => h1 ((mw_le ra mw_r0).mp (by rw [← mw_e0]; exact z))) (fun z => h0 (by have : ¬ (a ≤ 0) := fun w => z (by have u := (mw_le ra mw_r0).mpr w; rw [← mw_e0] at u; exact u); omega))
theorem mw_ifc_eq (hG : mw_S call F X G) {a : Int} (ha : sy_at X pc (o2_ifc .eq t) q) (ra : -2147483648 ≤ a ∧ a < 2147483648) (h1 : a = 0 → G t al r E h) (h0 : a ≠ 0 → G q al r E h) : G pc al (mw_i a :: r) E h := sy_ifc hG.1 ha (fun z => h1 ((mw_eq ra mw_r0).mp (by rw [← mw_e0]; exact z))) (fun z => h0 fun w => z (mw_e0 ▸ (mw_eq ra mw_r0).mpr w))
theorem mw_ifc_ne (hG : mw_S call F X G) {a : Int} (ha : sy_at X pc (o2_ifc .ne t) q) (ra : -2147483648 ≤ a ∧ a < 2147483648) (h1 : a ≠ 0 → G t al r E h) (h0 : a = 0 → G q al r E h) : G pc al (mw_i a :: r) E h := sy_ifc hG.1 ha (fun z => h1 fun w => z (mw_e0 ▸ (mw_eq ra mw_r0).mpr w)) (fun z => h0 (Classical.byContradiction fun w => z fun u => w ((mw_eq ra mw_r0).mp (by rw [← mw_e0]; exact u))))
end MW
-- contracts: nothing, an int, a long comes back; the last two leave the heap
def mw_Cv (l : Launch) (D k : Nat) (as : List ev_V) (E : e2_E) (h : ev_H) (Q : ev_H → Prop) : Prop := sy_C l D k as E h fun v E' h' => v = (9, 0, 0) ∧ E' = E ∧ Q h'
def mw_Ci (l : Launch) (D k : Nat) (as : List ev_V) (E : e2_E) (h : ev_H) (Q : Int → ev_H → Prop) : Prop := sy_C l D k as E h fun v E' h' => E' = E ∧ ∃ z, v = mw_i z ∧ Q z h'
def mw_Cl (l : Launch) (D k : Nat) (as : List ev_V) (E : e2_E) (h : ev_H) (Q : Nat → ev_H → Prop) : Prop := sy_C l D k as E h fun v E' h' => E' = E ∧ ∃ x, x < 18446744073709551616 ∧ v = (4, x, 0) ∧ Q x h'
def mw_Cp (l : Launch) (D k : Nat) (as : List ev_V) (E : e2_E) (h : ev_H) (Q : Int → Prop) : Prop := sy_C l D k as E h fun v E' h' => E' = E ∧ h' = h ∧ ∃ z, v = mw_i z ∧ Q z
section MWCall
variable {lc : Launch} {d D : Nat} {F : e2_F} {X : List e2_X} {G : sy_P} {al st r : List ev_V} {E : e2_E} {h0 h : ev_H} {pc q k b : Nat} {l : List ev_V} {R : Nat → Int → Int} {v1 v2 v3 : ev_V}
theorem mw_vv0 (hG : mw_S (sy_call lc d) F X G) (hV : mw_V h0 h l R) (ha : sy_at X pc (o2_virt k 0 10) q) {Q : ev_H → Prop} (hm : mw_Cv lc D k [(2, 83, b)] E h Q) (hr : e2_small r = true) (hd : D ≤ d) (hg : ∀ h', Q h' → G q al r E h') : G pc al ((2, 83, b) :: r) E h := by
  refine sy_virt (qs := []) (r := r) hG.1 ha rfl rfl (by omega) hV.1 hr hm hd fun v E' h' hp => ?_
  obtain ⟨rfl, rfl, hq⟩ := hp
  exact ⟨by show (9 : Nat) ≠ 12; decide, hg _ hq⟩
theorem mw_vi0 (hG : mw_S (sy_call lc d) F X G) (hV : mw_V h0 h l R) (ha : sy_at X pc (o2_virt k 0 10) q) {Q : Int → ev_H → Prop} (hm : mw_Ci lc D k [(2, 83, b)] E h Q) (hr : e2_small r = true) (hd : D ≤ d) (hg : ∀ z h', Q z h' → G q al (mw_i z :: r) E h') : G pc al ((2, 83, b) :: r) E h := by
  refine sy_virt (qs := []) (r := r) hG.1 ha rfl rfl (by omega) hV.1 hr hm hd fun v E' h' hp => ?_
  obtain ⟨rfl, z, rfl, hq⟩ := hp
  exact ⟨by show (0 : Nat) ≠ 12; decide, hg _ _ hq⟩
theorem mw_vl0 (hG : mw_S (sy_call lc d) F X G) (hV : mw_V h0 h l R) (ha : sy_at X pc (o2_virt k 0 10) q) {Q : Nat → ev_H → Prop} (hm : mw_Cl lc D k [(2, 83, b)] E h Q) (hr : e2_small r = true) (hd : D ≤ d) (hg : ∀ x h', x < 18446744073709551616 → Q x h' → G q al ((4, x, 0) :: r) E h') : G pc al ((2, 83, b) :: r) E h := by
  refine sy_virt (qs := []) (r := r) hG.1 ha rfl rfl (by omega) hV.1 hr hm hd fun v E' h' hp => ?_
  obtain ⟨rfl, x, hx, rfl, hq⟩ := hp
  exact ⟨by show (4 : Nat) ≠ 12; decide, hg _ _ hx hq⟩
theorem mw_vp0 (hG : mw_S (sy_call lc d) F X G) (hV : mw_V h0 h l R) (ha : sy_at X pc (o2_virt k 0 10) q) {Q : Int → Prop} (hm : mw_Cp lc D k [(2, 83, b)] E h Q) (hr : e2_small r = true) (hd : D ≤ d) (hg : ∀ z, Q z → G q al (mw_i z :: r) E h) : G pc al ((2, 83, b) :: r) E h := by
  refine sy_virt (qs := []) (r := r) hG.1 ha rfl rfl (by omega) hV.1 hr hm hd fun v E' h' hp => ?_
  obtain ⟨rfl, rfl, z, rfl, hq⟩ := hp
  exact ⟨by show (0 : Nat) ≠ 12; decide, hg _ hq⟩
theorem mw_vv1 (hG : mw_S (sy_call lc d) F X G) (hV : mw_V h0 h l R) (ha : sy_at X pc (o2_virt k 1 10) q) {Q : ev_H → Prop} (hm : mw_Cv lc D k [(2, 83, b), v1] E h Q) (hr : e2_small r = true) (hd : D ≤ d) (hg : ∀ h', Q h' → G q al r E h') : G pc al (v1 :: (2, 83, b) :: r) E h := by
  refine sy_virt (qs := [v1]) (r := r) hG.1 ha rfl rfl (by omega) hV.1 hr hm hd fun v E' h' hp => ?_
  obtain ⟨rfl, rfl, hq⟩ := hp
  exact ⟨by show (9 : Nat) ≠ 12; decide, hg _ hq⟩
theorem mw_vi1 (hG : mw_S (sy_call lc d) F X G) (hV : mw_V h0 h l R) (ha : sy_at X pc (o2_virt k 1 10) q) {Q : Int → ev_H → Prop} (hm : mw_Ci lc D k [(2, 83, b), v1] E h Q) (hr : e2_small r = true) (hd : D ≤ d) (hg : ∀ z h', Q z h' → G q al (mw_i z :: r) E h') : G pc al (v1 :: (2, 83, b) :: r) E h := by
  refine sy_virt (qs := [v1]) (r := r) hG.1 ha rfl rfl (by omega) hV.1 hr hm hd fun v E' h' hp => ?_
  obtain ⟨rfl, z, rfl, hq⟩ := hp
  exact ⟨by show (0 : Nat) ≠ 12; decide, hg _ _ hq⟩
theorem mw_vl1 (hG : mw_S (sy_call lc d) F X G) (hV : mw_V h0 h l R) (ha : sy_at X pc (o2_virt k 1 10) q) {Q : Nat → ev_H → Prop} (hm : mw_Cl lc D k [(2, 83, b), v1] E h Q) (hr : e2_small r = true) (hd : D ≤ d) (hg : ∀ x h', x < 18446744073709551616 → Q x h' → G q al ((4, x, 0) :: r) E h') : G pc al (v1 :: (2, 83, b) :: r) E h := by
  refine sy_virt (qs := [v1]) (r := r) hG.1 ha rfl rfl (by omega) hV.1 hr hm hd fun v E' h' hp => ?_
  obtain ⟨rfl, x, hx, rfl, hq⟩ := hp
  exact ⟨by show (4 : Nat) ≠ 12; decide, hg _ _ hx hq⟩
theorem mw_vp1 (hG : mw_S (sy_call lc d) F X G) (hV : mw_V h0 h l R) (ha : sy_at X pc (o2_virt k 1 10) q) {Q : Int → Prop} (hm : mw_Cp lc D k [(2, 83, b), v1] E h Q) (hr : e2_small r = true) (hd : D ≤ d) (hg : ∀ z, Q z → G q al (mw_i z :: r) E h) : G pc al (v1 :: (2, 83, b) :: r) E h := by
  refine sy_virt (qs := [v1]) (r := r) hG.1 ha rfl rfl (by omega) hV.1 hr hm hd fun v E' h' hp => ?_
  obtain ⟨rfl, rfl, z, rfl, hq⟩ := hp
  exact ⟨by show (0 : Nat) ≠ 12; decide, hg _ hq⟩
theorem mw_vv2 (hG : mw_S (sy_call lc d) F X G) (hV : mw_V h0 h l R) (ha : sy_at X pc (o2_virt k 2 10) q) {Q : ev_H → Prop} (hm : mw_Cv lc D k [(2, 83, b), v1, v2] E h Q) (hr : e2_small r = true) (hd : D ≤ d) (hg : ∀ h', Q h' → G q al r E h') : G pc al (v2 :: v1 :: (2, 83, b) :: r) E h := by
  refine sy_virt (qs := [v2, v1]) (r := r) hG.1 ha rfl rfl (by omega) hV.1 hr hm hd fun v E' h' hp => ?_
  obtain ⟨rfl, rfl, hq⟩ := hp
  exact ⟨by show (9 : Nat) ≠ 12; decide, hg _ hq⟩
theorem mw_vi2 (hG : mw_S (sy_call lc d) F X G) (hV : mw_V h0 h l R) (ha : sy_at X pc (o2_virt k 2 10) q) {Q : Int → ev_H → Prop} (hm : mw_Ci lc D k [(2, 83, b), v1, v2] E h Q) (hr : e2_small r = true) (hd : D ≤ d) (hg : ∀ z h', Q z h' → G q al (mw_i z :: r) E h') : G pc al (v2 :: v1 :: (2, 83, b) :: r) E h := by
  refine sy_virt (qs := [v2, v1]) (r := r) hG.1 ha rfl rfl (by omega) hV.1 hr hm hd fun v E' h' hp => ?_
  obtain ⟨rfl, z, rfl, hq⟩ := hp
  exact ⟨by show (0 : Nat) ≠ 12; decide, hg _ _ hq⟩
theorem mw_vl2 (hG : mw_S (sy_call lc d) F X G) (hV : mw_V h0 h l R) (ha : sy_at X pc (o2_virt k 2 10) q) {Q : Nat → ev_H → Prop} (hm : mw_Cl lc D k [(2, 83, b), v1, v2] E h Q) (hr : e2_small r = true) (hd : D ≤ d) (hg : ∀ x h', x < 18446744073709551616 → Q x h' → G q al ((4, x, 0) :: r) E h') : G pc al (v2 :: v1 :: (2, 83, b) :: r) E h := by
  refine sy_virt (qs := [v2, v1]) (r := r) hG.1 ha rfl rfl (by omega) hV.1 hr hm hd fun v E' h' hp => ?_
  obtain ⟨rfl, x, hx, rfl, hq⟩ := hp
  exact ⟨by show (4 : Nat) ≠ 12; decide, hg _ _ hx hq⟩
theorem mw_vp2 (hG : mw_S (sy_call lc d) F X G) (hV : mw_V h0 h l R) (ha : sy_at X pc (o2_virt k 2 10) q) {Q : Int → Prop} (hm : mw_Cp lc D k [(2, 83, b), v1, v2] E h Q) (hr : e2_small r = true) (hd : D ≤ d) (hg : ∀ z, Q z → G q al (mw_i z :: r) E h) : G pc al (v2 :: v1 :: (2, 83, b) :: r) E h := by
  refine sy_virt (qs := [v2, v1]) (r := r) hG.1 ha rfl rfl (by omega) hV.1 hr hm hd fun v E' h' hp => ?_
  obtain ⟨rfl, rfl, z, rfl, hq⟩ := hp
  exact ⟨by show (0 : Nat) ≠ 12; decide, hg _ hq⟩
theorem mw_vv3 (hG : mw_S (sy_call lc d) F X G) (hV : mw_V h0 h l R) (ha : sy_at X pc (o2_virt k 3 10) q) {Q : ev_H → Prop} (hm : mw_Cv lc D k [(2, 83, b), v1, v2, v3] E h Q) (hr : e2_small r = true) (hd : D ≤ d) (hg : ∀ h', Q h' → G q al r E h') : G pc al (v3 :: v2 :: v1 :: (2, 83, b) :: r) E h := by
  refine sy_virt (qs := [v3, v2, v1]) (r := r) hG.1 ha rfl rfl (by omega) hV.1 hr hm hd fun v E' h' hp => ?_
  obtain ⟨rfl, rfl, hq⟩ := hp
  exact ⟨by show (9 : Nat) ≠ 12; decide, hg _ hq⟩
theorem mw_vi3 (hG : mw_S (sy_call lc d) F X G) (hV : mw_V h0 h l R) (ha : sy_at X pc (o2_virt k 3 10) q) {Q : Int → ev_H → Prop} (hm : mw_Ci lc D k [(2, 83, b), v1, v2, v3] E h Q) (hr : e2_small r = true) (hd : D ≤ d) (hg : ∀ z h', Q z h' → G q al (mw_i z :: r) E h') : G pc al (v3 :: v2 :: v1 :: (2, 83, b) :: r) E h := by
  refine sy_virt (qs := [v3, v2, v1]) (r := r) hG.1 ha rfl rfl (by omega) hV.1 hr hm hd fun v E' h' hp => ?_
  obtain ⟨rfl, z, rfl, hq⟩ := hp
  exact ⟨by show (0 : Nat) ≠ 12; decide, hg _ _ hq⟩
theorem mw_vl3 (hG : mw_S (sy_call lc d) F X G) (hV : mw_V h0 h l R) (ha : sy_at X pc (o2_virt k 3 10) q) {Q : Nat → ev_H → Prop} (hm : mw_Cl lc D k [(2, 83, b), v1, v2, v3] E h Q) (hr : e2_small r = true) (hd : D ≤ d) (hg : ∀ x h', x < 18446744073709551616 → Q x h' → G q al ((4, x, 0) :: r) E h') : G pc al (v3 :: v2 :: v1 :: (2, 83, b) :: r) E h := by
  refine sy_virt (qs := [v3, v2, v1]) (r := r) hG.1 ha rfl rfl (by omega) hV.1 hr hm hd fun v E' h' hp => ?_
  obtain ⟨rfl, x, hx, rfl, hq⟩ := hp
  exact ⟨by show (4 : Nat) ≠ 12; decide, hg _ _ hx hq⟩
theorem mw_vp3 (hG : mw_S (sy_call lc d) F X G) (hV : mw_V h0 h l R) (ha : sy_at X pc (o2_virt k 3 10) q) {Q : Int → Prop} (hm : mw_Cp lc D k [(2, 83, b), v1, v2, v3] E h Q) (hr : e2_small r = true) (hd : D ≤ d) (hg : ∀ z, Q z → G q al (mw_i z :: r) E h) : G pc al (v3 :: v2 :: v1 :: (2, 83, b) :: r) E h := by
  refine sy_virt (qs := [v3, v2, v1]) (r := r) hG.1 ha rfl rfl (by omega) hV.1 hr hm hd fun v E' h' hp => ?_
  obtain ⟨rfl, rfl, z, rfl, hq⟩ := hp
  exact ⟨by show (0 : Nat) ≠ 12; decide, hg _ hq⟩
theorem mw_sp1 (hG : mw_S (sy_call lc d) F X G) (ha : sy_at X pc (o2_stat k 1) q) {Q : Int → Prop} (hm : mw_Cp lc D k [v1] E h Q) (hr : e2_small r = true) (hd : D ≤ d) (hg : ∀ z, Q z → G q al (mw_i z :: r) E h) : G pc al (v1 :: r) E h := by
  refine sy_stat (qs := [v1]) (r := r) hG.1 ha rfl rfl hr hm hd fun v E' h' hp => ?_
  obtain ⟨rfl, rfl, z, rfl, hq⟩ := hp
  exact ⟨by show (0 : Nat) ≠ 12; decide, hg _ hq⟩
end MWCall
