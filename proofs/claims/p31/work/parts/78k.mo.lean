/-! THE REFERENCE'S ORDERS ON EXACT HEAPS: the same frame over other rows -/
def mo_T : List (Nat × Nat) := [(0, 0), (0, 0), (0, 0), (0, 0), (0, 0), (0, 0), (0, 0), (0, 0), (0, 0), (0, 0), (0, 0), (0, 0), (0, 0), (0, 0), (0, 0), (0, 0), (0, 0), (0, 0), (0, 0), (0, 0), (0, 0), (0, 0), (0, 0), (0, 0), (0, 0), (0, 0), (0, 0), (0, 0), (0, 0), (0, 0), (0, 0), (0, 0), (0, 0), (0, 0), (0, 0), (0, 0), (0, 0), (0, 0), (0, 0), (0, 0), (0, 0), (0, 0), (0, 0), (0, 0), (0, 0), (0, 0), (0, 0), (0, 0), (0, 0), (0, 0), (0, 0), (0, 0), (0, 0), (0, 0), (0, 0), (0, 0), (0, 0), (0, 0), (0, 0), (0, 0), (0, 0), (0, 0), (0, 0), (0, 0), (0, 0), (0, 0), (0, 0), (0, 0), (0, 0), (0, 0), (0, 0), (0, 0), (0, 0), (0, 0), (0, 0), (0, 0), (0, 0), (0, 0), (0, 0), (0, 0), (0, 0), (0, 0), (0, 0), (0, 0), (0, 0), (0, 0), (50, 2), (0, 0), (50, 2), (0, 0), (0, 0), (50, 2), (0, 0), (0, 0), (0, 0), (0, 0), (50, 16), (50, 16), (50, 16), (50, 16), (50, 16), (50, 4), (50, 4), (0, 0), (52, 4), (0, 0), (0, 0), (50, 1120), (50, 1120), (0, 0), (0, 0), (50, 60), (50, 26), (50, 160), (50, 189), (50, 189), (50, 20), (50, 20), (0, 0), (50, 20), (0, 0), (0, 0), (50, 8), (50, 256), (0, 0), (0, 0), (0, 0), (0, 0), (0, 0), (0, 0), (0, 0), (0, 0), (0, 0)]
set_option maxRecDepth 100000 in
theorem mo_T_len : mo_T.length = 133 := by decide +kernel
set_option maxRecDepth 100000 in
theorem mo_T_le : ∀ p ∈ mo_T, p.2 ≤ 1620 := by decide +kernel
def mo_V (h0 h : ev_H) (l : List ev_V) (R : Nat → Int → Int) : Prop :=
  ev_hg h 83 = (10, l) ∧ (∀ k t n, mo_T[k]? = some (t, n) → t ≠ 0 → ev_hg h k = (t, mw_row k R n)) ∧ ∀ k n, k ≠ 83 → mo_T[k]? = some (0, n) → ev_hg h k = ev_hg h0 k
theorem mo_Tk {k t n : Nat} (h : mo_T[k]? = some (t, n)) : k < 133 ∧ n ≤ 1620 := ⟨by have := (List.getElem?_eq_some_iff.mp h).1; rw [mo_T_len] at this; exact this, mo_T_le _ (List.mem_of_getElem? h)⟩
theorem mo_V.o {h0 h : ev_H} {l l' : List ev_V} {R : Nat → Int → Int} (hV : mo_V h0 h l R) : mo_V h0 (ev_hs h 83 (10, l')) l' R := by
  obtain ⟨h1, h2, h4⟩ := hV
  refine ⟨rd_e (by omega), fun k t n hT ht => ?_, fun k n k1 hT => rd_g (by omega) (mo_Tk hT).1 k1 (h4 k n k1 hT)⟩
  refine rd_g (by omega) (mo_Tk hT).1 (fun z => ?_) (h2 k t n hT ht)
  subst z
  have : some (0, 0) = some (t, n) := hT
  injection this with this
  injection this with this
  exact ht this.symm
theorem mo_V.r {h0 h : ev_H} {l : List ev_V} {R : Nat → Int → Int} (hV : mo_V h0 h l R) {k t n : Nat} (hT : mo_T[k]? = some (t, n)) (ht : t ≠ 0) {i z : Int} (hi : 0 ≤ i) : mo_V h0 (ev_hs h k (t, sy_R n (sy_up (fun j => Int32.ofInt (R k (j : Int))) i.toNat (Int32.ofInt z)))) l (mu R k i z) := by
  obtain ⟨h1, h2, h4⟩ := hV
  have hk := (mo_Tk hT).1
  have k83 : 83 ≠ k := fun z => by
    subst z
    have : some (0, 0) = some (t, n) := hT
    injection this with this
    injection this with this
    exact ht this.symm
  refine ⟨rd_g hk (by omega) k83 h1, fun k2 t2 n2 hT2 ht2 => ?_, fun k2 n2 g1 hT2 => rd_g hk (mo_Tk hT2).1 (fun z => ?_) (h4 k2 n2 g1 hT2)⟩
  · by_cases hz : k2 = k
    · subst hz
      rw [hT] at hT2
      cases hT2
      rw [rd_e hk]
      refine congrArg (Prod.mk t) ?_
      unfold sy_R mw_row
      refine List.map_congr_left fun j _ => ?_
      show sy_I (if j = i.toNat then Int32.ofInt z else Int32.ofInt (R k2 (j : Int))) = mw_i (mu R k2 i z k2 (j : Int))
      by_cases hj : j = i.toNat
      · rw [if_pos hj, show (j : Int) = i by omega, mu_e]
        rfl
      · rw [if_neg hj, mu_n (by omega)]
        rfl
    · refine rd_g hk (mo_Tk hT2).1 hz ?_
      rw [h2 k2 t2 n2 hT2 ht2]
      refine congrArg (Prod.mk t2) ?_
      unfold mw_row
      refine List.map_congr_left fun j _ => ?_
      unfold mu
      rw [show Nat.beq k2 k = false from Bool.eq_false_iff.mpr fun z => hz (Nat.eq_of_beq_eq_true z), cond_false]
  · subst z
    rw [hT] at hT2
    injection hT2 with hT2
    injection hT2 with hT2
    exact ht hT2
section MO
variable {call : e2_Call} {F : e2_F} {X : List e2_X} {G : sy_P} {al al' st r : List ev_V} {E : e2_E} {h0 h : ev_H} {pc q t : Nat} {l l' : List ev_V} {R : Nat → Int → Int}
theorem mo_geti (hG : mw_S call F X G) {k b : Nat} {z : Int} (hV : mo_V h0 h l R) (ha : sy_at X pc (o2_getf 10 k) q) (hv : l[k]? = some (mw_i z)) (hg : G q al (mw_i z :: r) E h) : G pc al ((2, 83, b) :: r) E h := sy_getf hG.1 ha (by omega) hV.1 hv (Or.inl rfl) hg
theorem mo_geta (hG : mw_S call F X G) {k b a c : Nat} (hV : mo_V h0 h l R) (ha : sy_at X pc (o2_getf 10 k) q) (hv : l[k]? = some (2, a, c)) (hg : G q al ((2, a, c) :: r) E h) : G pc al ((2, 83, b) :: r) E h := sy_getf hG.1 ha (by omega) hV.1 hv (Or.inr rfl) hg
theorem mo_putf (hG : mw_S call F X G) {k b : Nat} {z : Int} (hV : mo_V h0 h l R) (ha : sy_at X pc (o2_putf 10 k 0) q) (hk : k < l.length) (hl : l.set k (mw_i z) = l') (hg : ∀ h', mo_V h0 h' l' R → G q al r E h') : G pc al (mw_i z :: (2, 83, b) :: r) E h := by
  refine sy_putf hG.1 ha (by omega) hV.1 hk (Or.inl rfl) ?_
  show G q al r E (ev_hs h 83 (10, l.set k (mw_i z)))
  rw [hl]
  exact hg _ hV.o
theorem mo_ald (hG : mw_S call F X G) {k n b : Nat} {i : Int} (hV : mo_V h0 h l R) (ha : sy_at X pc (o2_ald 50 50) q) (hT : mo_T[k]? = some (50, n)) (hi : 0 ≤ i ∧ i < n) (hg : G q al (mw_i (R k i) :: r) E h) : G pc al (mw_i i :: (2, k, b) :: r) E h := by
  have hk := mo_Tk hT
  refine sy_ald hG.1 ha hk.1 (hV.2.1 k 50 n hT (by omega)) (by omega) (i := i.toNat) (by omega) (mw_ix (by omega)) ?_
  rw [show ((i.toNat : Nat) : Int) = i by omega]
  exact hg
theorem mo_iast (hG : mw_S call F X G) {k n b : Nat} {i z : Int} (hV : mo_V h0 h l R) (ha : sy_at X pc o2_iast q) (hT : mo_T[k]? = some (50, n)) (hi : 0 ≤ i ∧ i < n) (hg : ∀ h', mo_V h0 h' l (mu R k i z) → G q al r E h') : G pc al (mw_i z :: mw_i i :: (2, k, b) :: r) E h := by
  have hk := mo_Tk hT
  exact sy_iast hG.1 ha hk.1 (hV.2.1 k 50 n hT (by omega)) (by omega) (i := i.toNat) (by omega) (mw_ix (by omega)) (hg _ (hV.r hT (by omega) hi.1))
theorem mo_bald (hG : mw_S call F X G) {k n b tg : Nat} {i : Int} (hV : mo_V h0 h l R) (ha : sy_at X pc (o2_ald 51 52) q) (hT : mo_T[k]? = some (tg, n)) (htg : tg = 51 ∨ tg = 52) (hi : 0 ≤ i ∧ i < n) (hg : G q al (mw_i (R k i) :: r) E h) : G pc al (mw_i i :: (2, k, b) :: r) E h := by
  have hk := mo_Tk hT
  have hc := hV.2.1 k tg n hT (by omega)
  refine sy_go hG.1 ha ?_
  unfold o2_ald
  rw [sy_el_f (show Nat.beq 51 50 = false from rfl)]
  unfold o2_ald0
  rw [sy_2c, sy_cell hk.1 hc, mw_i, sy_ix (i := i.toNat) (by omega) (mw_ix (by omega)), sy_el_t (show (Nat.ble 51 tg && Nat.ble tg 52) = true by rcases htg with rfl | rfl <;> rfl), sy_el_t (Nat.beq_refl _), mw_row_R, sy_get (sy_R_get (show i.toNat < n by omega))]
  rw [show ((i.toNat : Nat) : Int) = i by omega]
  exact sy_K_i hg
end MO
section MOCall
variable {lc : Launch} {d D : Nat} {F : e2_F} {X : List e2_X} {G : sy_P} {al st r : List ev_V} {E : e2_E} {h0 h : ev_H} {pc q k b : Nat} {l : List ev_V} {R : Nat → Int → Int} {v1 v2 v3 : ev_V}
theorem mo_vv0 (hG : mw_S (sy_call lc d) F X G) (hV : mo_V h0 h l R) (ha : sy_at X pc (o2_virt k 0 10) q) {Q : ev_H → Prop} (hm : mw_Cv lc D k [(2, 83, b)] E h Q) (hr : e2_small r = true) (hd : D ≤ d) (hg : ∀ h', Q h' → G q al r E h') : G pc al ((2, 83, b) :: r) E h := by
  refine sy_virt (qs := []) (r := r) hG.1 ha rfl rfl (by omega) hV.1 hr hm hd fun v E' h' hp => ?_
  obtain ⟨rfl, rfl, hq⟩ := hp
  exact ⟨by show (9 : Nat) ≠ 12; decide, hg _ hq⟩
theorem mo_vv1 (hG : mw_S (sy_call lc d) F X G) (hV : mo_V h0 h l R) (ha : sy_at X pc (o2_virt k 1 10) q) {Q : ev_H → Prop} (hm : mw_Cv lc D k [(2, 83, b), v1] E h Q) (hr : e2_small r = true) (hd : D ≤ d) (hg : ∀ h', Q h' → G q al r E h') : G pc al (v1 :: (2, 83, b) :: r) E h := by
  refine sy_virt (qs := [v1]) (r := r) hG.1 ha rfl rfl (by omega) hV.1 hr hm hd fun v E' h' hp => ?_
  obtain ⟨rfl, rfl, hq⟩ := hp
  exact ⟨by show (9 : Nat) ≠ 12; decide, hg _ hq⟩
theorem mo_vv2 (hG : mw_S (sy_call lc d) F X G) (hV : mo_V h0 h l R) (ha : sy_at X pc (o2_virt k 2 10) q) {Q : ev_H → Prop} (hm : mw_Cv lc D k [(2, 83, b), v1, v2] E h Q) (hr : e2_small r = true) (hd : D ≤ d) (hg : ∀ h', Q h' → G q al r E h') : G pc al (v2 :: v1 :: (2, 83, b) :: r) E h := by
  refine sy_virt (qs := [v2, v1]) (r := r) hG.1 ha rfl rfl (by omega) hV.1 hr hm hd fun v E' h' hp => ?_
  obtain ⟨rfl, rfl, hq⟩ := hp
  exact ⟨by show (9 : Nat) ≠ 12; decide, hg _ hq⟩
theorem mo_vv3 (hG : mw_S (sy_call lc d) F X G) (hV : mo_V h0 h l R) (ha : sy_at X pc (o2_virt k 3 10) q) {Q : ev_H → Prop} (hm : mw_Cv lc D k [(2, 83, b), v1, v2, v3] E h Q) (hr : e2_small r = true) (hd : D ≤ d) (hg : ∀ h', Q h' → G q al r E h') : G pc al (v3 :: v2 :: v1 :: (2, 83, b) :: r) E h := by
  refine sy_virt (qs := [v3, v2, v1]) (r := r) hG.1 ha rfl rfl (by omega) hV.1 hr hm hd fun v E' h' hp => ?_
  obtain ⟨rfl, rfl, hq⟩ := hp
  exact ⟨by show (9 : Nat) ≠ 12; decide, hg _ hq⟩
theorem mo_vi0 (hG : mw_S (sy_call lc d) F X G) (hV : mo_V h0 h l R) (ha : sy_at X pc (o2_virt k 0 10) q) {Q : Int → ev_H → Prop} (hm : mw_Ci lc D k [(2, 83, b)] E h Q) (hr : e2_small r = true) (hd : D ≤ d) (hg : ∀ z h', Q z h' → G q al (mw_i z :: r) E h') : G pc al ((2, 83, b) :: r) E h := by
  refine sy_virt (qs := []) (r := r) hG.1 ha rfl rfl (by omega) hV.1 hr hm hd fun v E' h' hp => ?_
  obtain ⟨rfl, z, rfl, hq⟩ := hp
  exact ⟨by show (0 : Nat) ≠ 12; decide, hg _ _ hq⟩
theorem mo_vi1 (hG : mw_S (sy_call lc d) F X G) (hV : mo_V h0 h l R) (ha : sy_at X pc (o2_virt k 1 10) q) {Q : Int → ev_H → Prop} (hm : mw_Ci lc D k [(2, 83, b), v1] E h Q) (hr : e2_small r = true) (hd : D ≤ d) (hg : ∀ z h', Q z h' → G q al (mw_i z :: r) E h') : G pc al (v1 :: (2, 83, b) :: r) E h := by
  refine sy_virt (qs := [v1]) (r := r) hG.1 ha rfl rfl (by omega) hV.1 hr hm hd fun v E' h' hp => ?_
  obtain ⟨rfl, z, rfl, hq⟩ := hp
  exact ⟨by show (0 : Nat) ≠ 12; decide, hg _ _ hq⟩
theorem mo_vi2 (hG : mw_S (sy_call lc d) F X G) (hV : mo_V h0 h l R) (ha : sy_at X pc (o2_virt k 2 10) q) {Q : Int → ev_H → Prop} (hm : mw_Ci lc D k [(2, 83, b), v1, v2] E h Q) (hr : e2_small r = true) (hd : D ≤ d) (hg : ∀ z h', Q z h' → G q al (mw_i z :: r) E h') : G pc al (v2 :: v1 :: (2, 83, b) :: r) E h := by
  refine sy_virt (qs := [v2, v1]) (r := r) hG.1 ha rfl rfl (by omega) hV.1 hr hm hd fun v E' h' hp => ?_
  obtain ⟨rfl, z, rfl, hq⟩ := hp
  exact ⟨by show (0 : Nat) ≠ 12; decide, hg _ _ hq⟩
theorem mo_vi3 (hG : mw_S (sy_call lc d) F X G) (hV : mo_V h0 h l R) (ha : sy_at X pc (o2_virt k 3 10) q) {Q : Int → ev_H → Prop} (hm : mw_Ci lc D k [(2, 83, b), v1, v2, v3] E h Q) (hr : e2_small r = true) (hd : D ≤ d) (hg : ∀ z h', Q z h' → G q al (mw_i z :: r) E h') : G pc al (v3 :: v2 :: v1 :: (2, 83, b) :: r) E h := by
  refine sy_virt (qs := [v3, v2, v1]) (r := r) hG.1 ha rfl rfl (by omega) hV.1 hr hm hd fun v E' h' hp => ?_
  obtain ⟨rfl, z, rfl, hq⟩ := hp
  exact ⟨by show (0 : Nat) ≠ 12; decide, hg _ _ hq⟩
theorem mo_vp0 (hG : mw_S (sy_call lc d) F X G) (hV : mo_V h0 h l R) (ha : sy_at X pc (o2_virt k 0 10) q) {Q : Int → Prop} (hm : mw_Cp lc D k [(2, 83, b)] E h Q) (hr : e2_small r = true) (hd : D ≤ d) (hg : ∀ z, Q z → G q al (mw_i z :: r) E h) : G pc al ((2, 83, b) :: r) E h := by
  refine sy_virt (qs := []) (r := r) hG.1 ha rfl rfl (by omega) hV.1 hr hm hd fun v E' h' hp => ?_
  obtain ⟨rfl, rfl, z, rfl, hq⟩ := hp
  exact ⟨by show (0 : Nat) ≠ 12; decide, hg _ hq⟩
theorem mo_vp1 (hG : mw_S (sy_call lc d) F X G) (hV : mo_V h0 h l R) (ha : sy_at X pc (o2_virt k 1 10) q) {Q : Int → Prop} (hm : mw_Cp lc D k [(2, 83, b), v1] E h Q) (hr : e2_small r = true) (hd : D ≤ d) (hg : ∀ z, Q z → G q al (mw_i z :: r) E h) : G pc al (v1 :: (2, 83, b) :: r) E h := by
  refine sy_virt (qs := [v1]) (r := r) hG.1 ha rfl rfl (by omega) hV.1 hr hm hd fun v E' h' hp => ?_
  obtain ⟨rfl, rfl, z, rfl, hq⟩ := hp
  exact ⟨by show (0 : Nat) ≠ 12; decide, hg _ hq⟩
theorem mo_vp2 (hG : mw_S (sy_call lc d) F X G) (hV : mo_V h0 h l R) (ha : sy_at X pc (o2_virt k 2 10) q) {Q : Int → Prop} (hm : mw_Cp lc D k [(2, 83, b), v1, v2] E h Q) (hr : e2_small r = true) (hd : D ≤ d) (hg : ∀ z, Q z → G q al (mw_i z :: r) E h) : G pc al (v2 :: v1 :: (2, 83, b) :: r) E h := by
  refine sy_virt (qs := [v2, v1]) (r := r) hG.1 ha rfl rfl (by omega) hV.1 hr hm hd fun v E' h' hp => ?_
  obtain ⟨rfl, rfl, z, rfl, hq⟩ := hp
  exact ⟨by show (0 : Nat) ≠ 12; decide, hg _ hq⟩
theorem mo_vp3 (hG : mw_S (sy_call lc d) F X G) (hV : mo_V h0 h l R) (ha : sy_at X pc (o2_virt k 3 10) q) {Q : Int → Prop} (hm : mw_Cp lc D k [(2, 83, b), v1, v2, v3] E h Q) (hr : e2_small r = true) (hd : D ≤ d) (hg : ∀ z, Q z → G q al (mw_i z :: r) E h) : G pc al (v3 :: v2 :: v1 :: (2, 83, b) :: r) E h := by
  refine sy_virt (qs := [v3, v2, v1]) (r := r) hG.1 ha rfl rfl (by omega) hV.1 hr hm hd fun v E' h' hp => ?_
  obtain ⟨rfl, rfl, z, rfl, hq⟩ := hp
  exact ⟨by show (0 : Nat) ≠ 12; decide, hg _ hq⟩
end MOCall
theorem mw_sp2 {lc : Launch} {d D : Nat} {F : e2_F} {X : List e2_X} {G : sy_P} {al r : List ev_V} {E : e2_E} {h : ev_H} {pc q k : Nat} {v1 v2 : ev_V} (hG : mw_S (sy_call lc d) F X G) (ha : sy_at X pc (o2_stat k 2) q) {Q : Int → Prop} (hm : mw_Cp lc D k [v1, v2] E h Q) (hr : e2_small r = true) (hd : D ≤ d) (hg : ∀ z, Q z → G q al (mw_i z :: r) E h) : G pc al (v2 :: v1 :: r) E h := by
  refine sy_stat (qs := [v2, v1]) (r := r) hG.1 ha rfl rfl hr hm hd fun v E' h' hp => ?_
  obtain ⟨rfl, rfl, z, rfl, hq⟩ := hp
  exact ⟨by show (0 : Nat) ≠ 12; decide, hg _ hq⟩
theorem mw_pop {call : e2_Call} {F : e2_F} {X : List e2_X} {G : sy_P} {al r : List ev_V} {E : e2_E} {h : ev_H} {pc q : Nat} {z : Int} (hG : mw_S call F X G) (ha : sy_at X pc o2_pop q) (hg : G q al r E h) : G pc al (mw_i z :: r) E h := sy_pop hG.1 ha rfl hg
theorem mw_c1000000 : ((0, 1000000, 0) : ev_V) = mw_i 1000000 := by decide +kernel
theorem mw_cm100000 : ((0, 4294867296, 0) : ev_V) = mw_i (-100000) := by decide +kernel
theorem mw_s11 {B : Nat → Int} {fk a fp en tok num : Int} {nm : Nat} {cs wi pi ui z : Int} : (mw_o B fk a fp en tok num nm cs wi pi ui).set 11 (mw_i z) = mw_o (mu1 B 11 z) fk a fp en tok num nm cs wi pi ui := rfl
theorem mw_s61 {B : Nat → Int} {fk a fp en tok num : Int} {nm : Nat} {cs wi pi ui z : Int} : (mw_o B fk a fp en tok num nm cs wi pi ui).set 61 (mw_i z) = mw_o (mu1 B 61 z) fk a fp en tok num nm cs wi pi ui := rfl
theorem mw_s62 {B : Nat → Int} {fk a fp en tok num : Int} {nm : Nat} {cs wi pi ui z : Int} : (mw_o B fk a fp en tok num nm cs wi pi ui).set 62 (mw_i z) = mw_o (mu1 B 62 z) fk a fp en tok num nm cs wi pi ui := rfl
theorem mw_s63 {B : Nat → Int} {fk a fp en tok num : Int} {nm : Nat} {cs wi pi ui z : Int} : (mw_o B fk a fp en tok num nm cs wi pi ui).set 63 (mw_i z) = mw_o (mu1 B 63 z) fk a fp en tok num nm cs wi pi ui := rfl
theorem mw_s64 {B : Nat → Int} {fk a fp en tok num : Int} {nm : Nat} {cs wi pi ui z : Int} : (mw_o B fk a fp en tok num nm cs wi pi ui).set 64 (mw_i z) = mw_o (mu1 B 64 z) fk a fp en tok num nm cs wi pi ui := rfl
theorem mw_s65 {B : Nat → Int} {fk a fp en tok num : Int} {nm : Nat} {cs wi pi ui z : Int} : (mw_o B fk a fp en tok num nm cs wi pi ui).set 65 (mw_i z) = mw_o (mu1 B 65 z) fk a fp en tok num nm cs wi pi ui := rfl
theorem mu1_mu1 {B : Nat → Int} {k : Nat} {x y : Int} : mu1 (mu1 B k x) k y = mu1 B k y := by
  funext j
  unfold mu1
  cases Nat.beq j k <;> rfl
-- bits
theorem mw_bt_shr (n : Nat) (hn : n < 32) (x : Int32) : sy_bt (eb_shr x (ev_i n)) 0 = sy_bt x n := by
  unfold sy_bt eb_shr
  rw [Int32.toBitVec_shiftRight]
  show (x.toBitVec.sshiftRight ((ev_i n &&& 31).toBitVec.smod 32).toNat).getLsbD 0 = _
  rw [sy_s_l n hn, BitVec.getLsbD_sshiftRight]
  simp [hn]
theorem mw_hs {x c : Int} (hc : 0 ≤ c ∧ c < 32) : (eb_and (Int32.ofInt (eb_shr (Int32.ofInt x) (Int32.ofInt c)).toInt) (Int32.ofInt 1)).toInt = if sy_bt (Int32.ofInt x) c.toNat = true then 1 else 0 := by
  rw [Int32.ofInt_toInt, mw_ix (show 0 ≤ c ∧ c < 2147483648 by omega), show Int32.ofInt 1 = 1 from by decide +kernel]
  have h := sy_and1 (eb_shr (Int32.ofInt x) (ev_i c.toNat))
  rw [mw_bt_shr c.toNat (by omega)] at h
  show (eb_shr (Int32.ofInt x) (ev_i c.toNat) &&& 1).toInt = _
  by_cases hb : sy_bt (Int32.ofInt x) c.toNat = true
  · rw [if_pos hb]
    rcases h.1 with z | z
    · rw [h.2.mp z] at hb
      cases hb
    · rw [z]
      decide +kernel
  · rw [if_neg hb]
    rw [h.2.mpr (by simpa using hb)]
    decide +kernel
/-- how many of the first bits are set -/
def mw_ct (x : Int32) : Nat → Nat
  | 0 => 0
  | k + 1 => mw_ct x k + (if sy_bt x k = true then 1 else 0)
theorem mw_ct_s (x : Int32) (k : Nat) : mw_ct x (k + 1) = mw_ct x k + (if sy_bt x k = true then 1 else 0) := rfl
theorem mw_ct_le (x : Int32) (k : Nat) : mw_ct x k ≤ k := by
  induction k with
  | zero => exact Nat.le_refl _
  | succ k ih =>
    rw [mw_ct_s]
    split <;> omega
theorem mw_ct_mono (x : Int32) (k j : Nat) : mw_ct x k ≤ mw_ct x (k + j) := by
  induction j with
  | zero => exact Nat.le_refl _
  | succ j ih =>
    rw [show k + (j + 1) = (k + j) + 1 by omega, mw_ct_s]
    omega
theorem mw_low : ∀ (N k : Nat), k ≤ N → 0 < k → ∃ t, k.testBit t = true ∧ (k &&& (k - 1)).testBit t = false ∧ ∀ j, j ≠ t → (k &&& (k - 1)).testBit j = k.testBit j := by
  intro N
  induction N with
  | zero => intro k h1 h2; omega
  | succ N ih =>
    intro k h1 h2
    by_cases ho : k % 2 = 1
    · refine ⟨0, by rw [Nat.testBit_zero, decide_eq_true_iff]; exact ho, ?_, fun j hj => ?_⟩
      · rw [Nat.testBit_and, Nat.testBit_zero, Nat.testBit_zero, show decide ((k - 1) % 2 = 1) = false from decide_eq_false (by omega), Bool.and_false]
      · cases j with
        | zero => exact absurd rfl hj
        | succ j => rw [Nat.testBit_and, Nat.testBit_succ, Nat.testBit_succ, show (k - 1) / 2 = k / 2 by omega, Bool.and_self]
    · obtain ⟨t, t1, t2, t3⟩ := ih (k / 2) (by omega) (by omega)
      have e : (k - 1) / 2 = k / 2 - 1 := by omega
      refine ⟨t + 1, by rw [Nat.testBit_succ]; exact t1, ?_, fun j hj => ?_⟩
      · rw [Nat.testBit_and] at t2 ⊢
        rw [Nat.testBit_succ, Nat.testBit_succ, e]
        exact t2
      · cases j with
        | zero => rw [Nat.testBit_and, Nat.testBit_zero, show decide (k % 2 = 1) = false from decide_eq_false ho, Bool.false_and]
        | succ j =>
          have := t3 j (by omega)
          rw [Nat.testBit_and] at this ⊢
          rw [Nat.testBit_succ, Nat.testBit_succ, e]
          exact this
theorem mw_ct_t {x y : Int32} {t : Nat} (h1 : sy_bt x t = true) (h2 : sy_bt y t = false) (h3 : ∀ j, j ≠ t → sy_bt y j = sy_bt x j) : ∀ N, mw_ct x N = mw_ct y N + (if t < N then 1 else 0) := by
  intro N
  induction N with
  | zero => rfl
  | succ N ih =>
    rw [mw_ct_s, mw_ct_s, ih]
    by_cases hz : N = t
    · subst hz
      rw [if_pos h1, h2, if_neg (by omega), if_neg (by simp), if_pos (by omega)]
    · rw [h3 N hz]
      by_cases hl : t < N
      · rw [if_pos hl, if_pos (show t < N + 1 by omega)]
        omega
      · rw [if_neg hl, if_neg (show ¬ t < N + 1 by omega)]
        omega
theorem mw_ct_low {x : Int32} (h : x ≠ 0) : mw_ct x 32 = mw_ct (eb_and x (eb_sub x 1)) 32 + 1 := by
  have h0 : ev_u x ≠ 0 := fun z => h (by rw [← ev_iu x, z]; rfl)
  have hu : ev_u (eb_and x (eb_sub x 1)) = ev_u x &&& (ev_u x - 1) := by
    show (x &&& (x - 1)).toUInt32.toNat = _
    rw [show (x &&& (x - 1)).toUInt32 = x.toUInt32 &&& (x.toUInt32 - 1) from rfl, UInt32.toNat_and, UInt32.toNat_sub_of_le]
    · rfl
    · rw [UInt32.le_iff_toNat_le]
      show 1 ≤ ev_u x
      omega
  obtain ⟨t, t1, t2, t3⟩ := mw_low (ev_u x) (ev_u x) (Nat.le_refl _) (by omega)
  have hb : ∀ (y : Int32) (i : Nat), sy_bt y i = (ev_u y).testBit i := fun _ _ => rfl
  have ht : t < 32 := Classical.byContradiction fun z => by
    have hl : ev_u x < 2 ^ t := Nat.lt_of_lt_of_le (show ev_u x < 2 ^ 32 from x.toUInt32.toNat_lt) (Nat.pow_le_pow_right (by omega) (by omega))
    rw [Nat.testBit_lt_two_pow hl] at t1
    cases t1
  have := mw_ct_t (x := x) (y := eb_and x (eb_sub x 1)) (t := t) (by rw [hb]; exact t1) (by rw [hb, hu]; exact t2) (fun j hj => by rw [hb, hb, hu]; exact t3 j hj) 32
  rw [if_pos ht] at this
  exact this
theorem mw_ct_0 : mw_ct 0 32 = 0 := by decide +kernel
