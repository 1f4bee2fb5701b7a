/-! THE REFERENCE'S ORDERS: what holds of the rows; signs in the meadow, weights, one reading -/
def mo_K (R : Nat → Int → Int) (b W M : Int) : Prop := R 86 b = W ∧ R 88 b = M ∧ (0 ≤ b ∧ b ≤ 1 ∧ 4 ≤ W ∧ W ≤ 20 ∧ 0 ≤ M ∧ M ≤ 8) ∧ (∀ g, 0 ≤ g → g < M → 1 ≤ R 97 (8 * b + g)) ∧ (R 104 (2 * b) = 1 → mw_ru R (2 * b) 0 1120) ∧ (∀ i, 0 ≤ i → i < 16 → -2147483648 ≤ R 96 i ∧ R 96 i ≤ 2147483647) ∧ (∀ i, 0 ≤ i → i < 16 → 0 ≤ R 97 i ∧ R 97 i ≤ 6) ∧ (∀ i, 0 ≤ i → i < 16 → 0 ≤ R 98 i ∧ R 98 i ≤ 3) ∧ (∀ i, 0 ≤ i → i < 16 → -2147483648 ≤ R 99 i ∧ R 99 i ≤ 2147483647) ∧ (∀ i, 0 ≤ i → i < 4 → 0 ≤ R 104 i ∧ R 104 i ≤ 1) ∧ (∀ i, 0 ≤ i → i < 26 → -2147483648 ≤ R 112 i ∧ R 112 i ≤ 2147483647) ∧ (∀ i, 0 ≤ i → i < 160 → -2147483648 ≤ R 113 i ∧ R 113 i ≤ 2147483647) ∧ (∀ i, 0 ≤ i → i < 189 → -2147483648 ≤ R 114 i ∧ R 114 i ≤ 2147483647) ∧ (∀ i, 0 ≤ i → i < 189 → -2147483648 ≤ R 115 i ∧ R 115 i ≤ 2147483647) ∧ (∀ i, 0 ≤ i → i < 20 → 0 ≤ R 116 i ∧ R 116 i ≤ 7) ∧ (∀ i, 0 ≤ i → i < 20 → 0 ≤ R 117 i ∧ R 117 i ≤ 19) ∧ (∀ i, 0 ≤ i → i < 8 → 0 ≤ R 122 i ∧ R 122 i ≤ 19) ∧ (∀ i, 0 ≤ i → i < 256 → -2147483648 ≤ R 123 i ∧ R 123 i ≤ 2147483647)
theorem mo_K.p113 {R R2 : Nat → Int → Int} {b W M : Int} (h : mo_K R b W M) {i z : Int} (hR : R2 = mu R 113 i z) (hz : -2147483648 ≤ z ∧ z ≤ 2147483647) : mo_K R2 b W M := by
  subst hR
  obtain ⟨e1, e2, e3, e4, e5, k96, k97, k98, k99, k104, k112, k113, k114, k115, k116, k117, k122, k123⟩ := h
  exact ⟨e1, e2, e3, e4, e5, k96, k97, k98, k99, k104, k112, fun x h1 h2 => mu_b (k113 x h1 h2) hz, k114, k115, k116, k117, k122, k123⟩
theorem mo_K.p114 {R R2 : Nat → Int → Int} {b W M : Int} (h : mo_K R b W M) {i z : Int} (hR : R2 = mu R 114 i z) (hz : -2147483648 ≤ z ∧ z ≤ 2147483647) : mo_K R2 b W M := by
  subst hR
  obtain ⟨e1, e2, e3, e4, e5, k96, k97, k98, k99, k104, k112, k113, k114, k115, k116, k117, k122, k123⟩ := h
  exact ⟨e1, e2, e3, e4, e5, k96, k97, k98, k99, k104, k112, k113, fun x h1 h2 => mu_b (k114 x h1 h2) hz, k115, k116, k117, k122, k123⟩
theorem mo_K.p115 {R R2 : Nat → Int → Int} {b W M : Int} (h : mo_K R b W M) {i z : Int} (hR : R2 = mu R 115 i z) (hz : -2147483648 ≤ z ∧ z ≤ 2147483647) : mo_K R2 b W M := by
  subst hR
  obtain ⟨e1, e2, e3, e4, e5, k96, k97, k98, k99, k104, k112, k113, k114, k115, k116, k117, k122, k123⟩ := h
  exact ⟨e1, e2, e3, e4, e5, k96, k97, k98, k99, k104, k112, k113, k114, fun x h1 h2 => mu_b (k115 x h1 h2) hz, k116, k117, k122, k123⟩
theorem mo_K.p116 {R R2 : Nat → Int → Int} {b W M : Int} (h : mo_K R b W M) {i z : Int} (hR : R2 = mu R 116 i z) (hz : 0 ≤ z ∧ z ≤ 7) : mo_K R2 b W M := by
  subst hR
  obtain ⟨e1, e2, e3, e4, e5, k96, k97, k98, k99, k104, k112, k113, k114, k115, k116, k117, k122, k123⟩ := h
  exact ⟨e1, e2, e3, e4, e5, k96, k97, k98, k99, k104, k112, k113, k114, k115, fun x h1 h2 => mu_b (k116 x h1 h2) hz, k117, k122, k123⟩
theorem mo_K.p117 {R R2 : Nat → Int → Int} {b W M : Int} (h : mo_K R b W M) {i z : Int} (hR : R2 = mu R 117 i z) (hz : 0 ≤ z ∧ z ≤ 19) : mo_K R2 b W M := by
  subst hR
  obtain ⟨e1, e2, e3, e4, e5, k96, k97, k98, k99, k104, k112, k113, k114, k115, k116, k117, k122, k123⟩ := h
  exact ⟨e1, e2, e3, e4, e5, k96, k97, k98, k99, k104, k112, k113, k114, k115, k116, fun x h1 h2 => mu_b (k117 x h1 h2) hz, k122, k123⟩
theorem mo_K.p122 {R R2 : Nat → Int → Int} {b W M : Int} (h : mo_K R b W M) {i z : Int} (hR : R2 = mu R 122 i z) (hz : 0 ≤ z ∧ z ≤ 19) : mo_K R2 b W M := by
  subst hR
  obtain ⟨e1, e2, e3, e4, e5, k96, k97, k98, k99, k104, k112, k113, k114, k115, k116, k117, k122, k123⟩ := h
  exact ⟨e1, e2, e3, e4, e5, k96, k97, k98, k99, k104, k112, k113, k114, k115, k116, k117, fun x h1 h2 => mu_b (k122 x h1 h2) hz, k123⟩
theorem mo_K.p123 {R R2 : Nat → Int → Int} {b W M : Int} (h : mo_K R b W M) {i z : Int} (hR : R2 = mu R 123 i z) (hz : -2147483648 ≤ z ∧ z ≤ 2147483647) : mo_K R2 b W M := by
  subst hR
  obtain ⟨e1, e2, e3, e4, e5, k96, k97, k98, k99, k104, k112, k113, k114, k115, k116, k117, k122, k123⟩ := h
  exact ⟨e1, e2, e3, e4, e5, k96, k97, k98, k99, k104, k112, k113, k114, k115, k116, k117, k122, fun x h1 h2 => mu_b (k123 x h1 h2) hz⟩
theorem mo_K.p119 {R R2 : Nat → Int → Int} {b W M : Int} (h : mo_K R b W M) {i z : Int} (hR : R2 = mu R 119 i z) (_ : True) : mo_K R2 b W M := by
  subst hR
  exact h
theorem mo_K.g96 {R : Nat → Int → Int} {b W M : Int} (h : mo_K R b W M) {i : Int} (hi : 0 ≤ i ∧ i < 16) : -2147483648 ≤ R 96 i ∧ R 96 i ≤ 2147483647 := h.2.2.2.2.2.1 i hi.1 hi.2
theorem mo_K.g97 {R : Nat → Int → Int} {b W M : Int} (h : mo_K R b W M) {i : Int} (hi : 0 ≤ i ∧ i < 16) : 0 ≤ R 97 i ∧ R 97 i ≤ 6 := h.2.2.2.2.2.2.1 i hi.1 hi.2
theorem mo_K.g98 {R : Nat → Int → Int} {b W M : Int} (h : mo_K R b W M) {i : Int} (hi : 0 ≤ i ∧ i < 16) : 0 ≤ R 98 i ∧ R 98 i ≤ 3 := h.2.2.2.2.2.2.2.1 i hi.1 hi.2
theorem mo_K.g99 {R : Nat → Int → Int} {b W M : Int} (h : mo_K R b W M) {i : Int} (hi : 0 ≤ i ∧ i < 16) : -2147483648 ≤ R 99 i ∧ R 99 i ≤ 2147483647 := h.2.2.2.2.2.2.2.2.1 i hi.1 hi.2
theorem mo_K.g104 {R : Nat → Int → Int} {b W M : Int} (h : mo_K R b W M) {i : Int} (hi : 0 ≤ i ∧ i < 4) : 0 ≤ R 104 i ∧ R 104 i ≤ 1 := h.2.2.2.2.2.2.2.2.2.1 i hi.1 hi.2
theorem mo_K.g112 {R : Nat → Int → Int} {b W M : Int} (h : mo_K R b W M) {i : Int} (hi : 0 ≤ i ∧ i < 26) : -2147483648 ≤ R 112 i ∧ R 112 i ≤ 2147483647 := h.2.2.2.2.2.2.2.2.2.2.1 i hi.1 hi.2
theorem mo_K.g113 {R : Nat → Int → Int} {b W M : Int} (h : mo_K R b W M) {i : Int} (hi : 0 ≤ i ∧ i < 160) : -2147483648 ≤ R 113 i ∧ R 113 i ≤ 2147483647 := h.2.2.2.2.2.2.2.2.2.2.2.1 i hi.1 hi.2
theorem mo_K.g114 {R : Nat → Int → Int} {b W M : Int} (h : mo_K R b W M) {i : Int} (hi : 0 ≤ i ∧ i < 189) : -2147483648 ≤ R 114 i ∧ R 114 i ≤ 2147483647 := h.2.2.2.2.2.2.2.2.2.2.2.2.1 i hi.1 hi.2
theorem mo_K.g115 {R : Nat → Int → Int} {b W M : Int} (h : mo_K R b W M) {i : Int} (hi : 0 ≤ i ∧ i < 189) : -2147483648 ≤ R 115 i ∧ R 115 i ≤ 2147483647 := h.2.2.2.2.2.2.2.2.2.2.2.2.2.1 i hi.1 hi.2
theorem mo_K.g116 {R : Nat → Int → Int} {b W M : Int} (h : mo_K R b W M) {i : Int} (hi : 0 ≤ i ∧ i < 20) : 0 ≤ R 116 i ∧ R 116 i ≤ 7 := h.2.2.2.2.2.2.2.2.2.2.2.2.2.2.1 i hi.1 hi.2
theorem mo_K.g117 {R : Nat → Int → Int} {b W M : Int} (h : mo_K R b W M) {i : Int} (hi : 0 ≤ i ∧ i < 20) : 0 ≤ R 117 i ∧ R 117 i ≤ 19 := h.2.2.2.2.2.2.2.2.2.2.2.2.2.2.2.1 i hi.1 hi.2
theorem mo_K.g122 {R : Nat → Int → Int} {b W M : Int} (h : mo_K R b W M) {i : Int} (hi : 0 ≤ i ∧ i < 8) : 0 ≤ R 122 i ∧ R 122 i ≤ 19 := h.2.2.2.2.2.2.2.2.2.2.2.2.2.2.2.2.1 i hi.1 hi.2
theorem mo_K.g123 {R : Nat → Int → Int} {b W M : Int} (h : mo_K R b W M) {i : Int} (hi : 0 ≤ i ∧ i < 256) : -2147483648 ≤ R 123 i ∧ R 123 i ≤ 2147483647 := h.2.2.2.2.2.2.2.2.2.2.2.2.2.2.2.2.2 i hi.1 hi.2
theorem mo_K.let {R : Nat → Int → Int} {b W M : Int} (h : mo_K R b W M) {g : Int} (hg : 0 ≤ g ∧ g < M) : 1 ≤ R 97 (8 * b + g) ∧ R 97 (8 * b + g) ≤ 6 := ⟨h.2.2.2.1 g hg.1 hg.2, (h.g97 (by have := h.2.2.1; omega)).2⟩
def mo_fr (S : List Nat) (R R2 : Nat → Int → Int) : Prop := ∀ k i, k ∉ S → R2 k i = R k i
theorem mo_fr.rf (S : List Nat) (R : Nat → Int → Int) : mo_fr S R R := fun _ _ _ => rfl
theorem mo_fr.up {S : List Nat} {R0 R R2 : Nat → Int → Int} (h : mo_fr S R0 R) {k : Nat} {i z : Int} (hR : R2 = mu R k i z) (hk : k ∈ S) : mo_fr S R0 R2 := fun j x hj => by
  rw [hR, mu_k (fun (e : j = k) => hj (by rw [e]; exact hk))]
  exact h j x hj
theorem mo_fr.tr {S S2 : List Nat} {R0 R R2 : Nat → Int → Int} (h : mo_fr S R0 R) (h2 : mo_fr S2 R R2) (hs : ∀ k ∈ S2, k ∈ S) : mo_fr S R0 R2 := fun k i hk => (h2 k i fun z => hk (hs k z)).trans (h k i hk)
def mo_bf (S : List Nat) (B B2 : Nat → Int) : Prop := ∀ j, j ∉ S → B2 j = B j
theorem mo_bf.rf (S : List Nat) (B : Nat → Int) : mo_bf S B B := fun _ _ => rfl
theorem mo_bf.up {S : List Nat} {B0 B B2 : Nat → Int} (h : mo_bf S B0 B) {k : Nat} (hB : ∀ j, j ≠ k → B2 j = B j) (hk : k ∈ S) : mo_bf S B0 B2 := fun j hj => (hB j fun (e : j = k) => hj (by rw [e]; exact hk)).trans (h j hj)
theorem mo_bf.tr {S S2 : List Nat} {B0 B B2 : Nat → Int} (h : mo_bf S B0 B) (h2 : mo_bf S2 B B2) (hs : ∀ k ∈ S2, k ∈ S) : mo_bf S B0 B2 := fun k hk => (h2 k fun z => hk (hs k z)).trans (h k hk)
section MOB
variable {call : e2_Call} {F : e2_F} {X : List e2_X} {G : sy_P} {al r : List ev_V} {E : e2_E} {h0 h : ev_H} {pc q b : Nat} {R : Nat → Int → Int} {B : Nat → Int} {fk a fp en tok num : Int} {nm : Nat} {cs wi pi ui z : Int}
theorem mo_g0 (hG : mw_S call F X G) (hV : mo_V h0 h (mw_o B fk a fp en tok num nm cs wi pi ui) R) (ha : sy_at X pc (o2_getf 10 0) q) (hb : B 0 = z) (hg : G q al (mw_i z :: r) E h) : G pc al ((2, 83, b) :: r) E h := by
  subst hb
  exact mo_geti hG hV ha rfl hg
theorem mo_g11 (hG : mw_S call F X G) (hV : mo_V h0 h (mw_o B fk a fp en tok num nm cs wi pi ui) R) (ha : sy_at X pc (o2_getf 10 11) q) (hb : B 11 = z) (hg : G q al (mw_i z :: r) E h) : G pc al ((2, 83, b) :: r) E h := by
  subst hb
  exact mo_geti hG hV ha rfl hg
theorem mo_g20 (hG : mw_S call F X G) (hV : mo_V h0 h (mw_o B fk a fp en tok num nm cs wi pi ui) R) (ha : sy_at X pc (o2_getf 10 20) q) (hb : B 20 = z) (hg : G q al (mw_i z :: r) E h) : G pc al ((2, 83, b) :: r) E h := by
  subst hb
  exact mo_geti hG hV ha rfl hg
theorem mo_p11 (hG : mw_S call F X G) (hV : mo_V h0 h (mw_o B fk a fp en tok num nm cs wi pi ui) R) (ha : sy_at X pc (o2_putf 10 11 0) q) (hg : ∀ h' B', mo_V h0 h' (mw_o B' fk a fp en tok num nm cs wi pi ui) R → (∀ j, j ≠ 11 → B' j = B j) → B' 11 = z → G q al r E h') : G pc al (mw_i z :: (2, 83, b) :: r) E h := mo_putf hG hV ha (Nat.le_of_ble_eq_true rfl) mw_s11 fun h' hV' => hg h' _ hV' (fun j hj => mu1_n hj) (by unfold mu1; rw [Nat.beq_refl, cond_true])
theorem mo_p20 (hG : mw_S call F X G) (hV : mo_V h0 h (mw_o B fk a fp en tok num nm cs wi pi ui) R) (ha : sy_at X pc (o2_putf 10 20 0) q) (hg : ∀ h' B', mo_V h0 h' (mw_o B' fk a fp en tok num nm cs wi pi ui) R → (∀ j, j ≠ 20 → B' j = B j) → B' 20 = z → G q al r E h') : G pc al (mw_i z :: (2, 83, b) :: r) E h := mo_putf hG hV ha (Nat.le_of_ble_eq_true rfl) mw_s20 fun h' hV' => hg h' _ hV' (fun j hj => mu1_n hj) (by unfold mu1; rw [Nat.beq_refl, cond_true])
theorem mo_p61 (hG : mw_S call F X G) (hV : mo_V h0 h (mw_o B fk a fp en tok num nm cs wi pi ui) R) (ha : sy_at X pc (o2_putf 10 61 0) q) (hg : ∀ h' B', mo_V h0 h' (mw_o B' fk a fp en tok num nm cs wi pi ui) R → (∀ j, j ≠ 61 → B' j = B j) → B' 61 = z → G q al r E h') : G pc al (mw_i z :: (2, 83, b) :: r) E h := mo_putf hG hV ha (Nat.le_of_ble_eq_true rfl) mw_s61 fun h' hV' => hg h' _ hV' (fun j hj => mu1_n hj) (by unfold mu1; rw [Nat.beq_refl, cond_true])
theorem mo_p62 (hG : mw_S call F X G) (hV : mo_V h0 h (mw_o B fk a fp en tok num nm cs wi pi ui) R) (ha : sy_at X pc (o2_putf 10 62 0) q) (hg : ∀ h' B', mo_V h0 h' (mw_o B' fk a fp en tok num nm cs wi pi ui) R → (∀ j, j ≠ 62 → B' j = B j) → B' 62 = z → G q al r E h') : G pc al (mw_i z :: (2, 83, b) :: r) E h := mo_putf hG hV ha (Nat.le_of_ble_eq_true rfl) mw_s62 fun h' hV' => hg h' _ hV' (fun j hj => mu1_n hj) (by unfold mu1; rw [Nat.beq_refl, cond_true])
theorem mo_p63 (hG : mw_S call F X G) (hV : mo_V h0 h (mw_o B fk a fp en tok num nm cs wi pi ui) R) (ha : sy_at X pc (o2_putf 10 63 0) q) (hg : ∀ h' B', mo_V h0 h' (mw_o B' fk a fp en tok num nm cs wi pi ui) R → (∀ j, j ≠ 63 → B' j = B j) → B' 63 = z → G q al r E h') : G pc al (mw_i z :: (2, 83, b) :: r) E h := mo_putf hG hV ha (Nat.le_of_ble_eq_true rfl) mw_s63 fun h' hV' => hg h' _ hV' (fun j hj => mu1_n hj) (by unfold mu1; rw [Nat.beq_refl, cond_true])
theorem mo_p64 (hG : mw_S call F X G) (hV : mo_V h0 h (mw_o B fk a fp en tok num nm cs wi pi ui) R) (ha : sy_at X pc (o2_putf 10 64 0) q) (hg : ∀ h' B', mo_V h0 h' (mw_o B' fk a fp en tok num nm cs wi pi ui) R → (∀ j, j ≠ 64 → B' j = B j) → B' 64 = z → G q al r E h') : G pc al (mw_i z :: (2, 83, b) :: r) E h := mo_putf hG hV ha (Nat.le_of_ble_eq_true rfl) mw_s64 fun h' hV' => hg h' _ hV' (fun j hj => mu1_n hj) (by unfold mu1; rw [Nat.beq_refl, cond_true])
theorem mo_p65 (hG : mw_S call F X G) (hV : mo_V h0 h (mw_o B fk a fp en tok num nm cs wi pi ui) R) (ha : sy_at X pc (o2_putf 10 65 0) q) (hg : ∀ h' B', mo_V h0 h' (mw_o B' fk a fp en tok num nm cs wi pi ui) R → (∀ j, j ≠ 65 → B' j = B j) → B' 65 = z → G q al r E h') : G pc al (mw_i z :: (2, 83, b) :: r) E h := mo_putf hG hV ha (Nat.le_of_ble_eq_true rfl) mw_s65 fun h' hV' => hg h' _ hV' (fun j hj => mu1_n hj) (by unfold mu1; rw [Nat.beq_refl, cond_true])
theorem mo_ist (hG : mw_S call F X G) {l : List ev_V} {k n : Nat} {i : Int} (hV : mo_V h0 h l R) (ha : sy_at X pc o2_iast q) (hT : mo_T[k]? = some (50, n)) (hi : 0 ≤ i ∧ i < n) (hg : ∀ h' R', mo_V h0 h' l R' → R' = mu R k i z → G q al r E h') : G pc al (mw_i z :: mw_i i :: (2, k, b) :: r) E h := mo_iast hG hV ha hT hi fun h' hV' => hg h' _ hV' rfl
end MOB
set_option maxRecDepth 20000 in
theorem mo_width (hen : en_ok) {lc : Launch} {h0 h : ev_H} {E : e2_E} {B : Nat → Int} {fk a fp en tok num : Int} {nm : Nat} {cs wi pi ui : Int} {R : Nat → Int → Int} {bk W M : Int} (hV : mo_V h0 h (mw_o B fk a fp en tok num nm cs wi pi ui) R) (b0 : B 0 = bk) (hK : mo_K R bk W M) : mw_Cp lc 1 216 [(2, 83, 0)] E h (fun z => z = W) := by
  refine mw_con (D := 0) (C := evd_216) (X := e2x_216) [] hen ei_216 ex2_216 (Nat.le_of_ble_eq_true rfl) fun d0 F G hd hF hG => ?_
  show G 0 [(2, 83, 0)] [] E h
  have kk := hK.2.2.1
  refine mw_aload hG a216_0 rfl ?_
  refine mo_geta hG hV a216_1 rfl ?_
  refine mw_aload hG a216_4 rfl ?_
  refine mo_g0 hG hV a216_5 b0 ?_
  refine mo_ald hG hV a216_8 rfl (by omega) ?_
  refine mw_iret hG a216_9 (Or.inl rfl) (hF _ _ _ ⟨rfl, rfl, _, rfl, ?_⟩)
  exact hK.1
set_option maxRecDepth 20000 in
theorem mo_many (hen : en_ok) {lc : Launch} {h0 h : ev_H} {E : e2_E} {B : Nat → Int} {fk a fp en tok num : Int} {nm : Nat} {cs wi pi ui : Int} {R : Nat → Int → Int} {bk W M : Int} (hV : mo_V h0 h (mw_o B fk a fp en tok num nm cs wi pi ui) R) (b0 : B 0 = bk) (hK : mo_K R bk W M) : mw_Cp lc 1 217 [(2, 83, 0)] E h (fun z => z = M) := by
  refine mw_con (D := 0) (C := evd_217) (X := e2x_217) [] hen ei_217 ex2_217 (Nat.le_of_ble_eq_true rfl) fun d0 F G hd hF hG => ?_
  show G 0 [(2, 83, 0)] [] E h
  have kk := hK.2.2.1
  refine mw_aload hG a217_0 rfl ?_
  refine mo_geta hG hV a217_1 rfl ?_
  refine mw_aload hG a217_4 rfl ?_
  refine mo_g0 hG hV a217_5 b0 ?_
  refine mo_ald hG hV a217_8 rfl (by omega) ?_
  refine mw_iret hG a217_9 (Or.inl rfl) (hF _ _ _ ⟨rfl, rfl, _, rfl, ?_⟩)
  exact hK.2.1
set_option maxRecDepth 20000 in
theorem mo_has (hen : en_ok) {lc : Launch} {h : ev_H} {E : e2_E} {x c : Int} (hc : 0 ≤ c ∧ c < 32) : mw_Cp lc 1 215 [mw_i x, mw_i c] E h (fun z => (z = 0 ∨ z = 1) ∧ (z = 1 ↔ sy_bt (Int32.ofInt x) c.toNat = true)) := by
  refine mw_con (D := 0) (C := evd_215) (X := e2x_215) [] hen ei_215 ex2_215 (Nat.le_of_ble_eq_true rfl) fun d0 F G hd hF hG => ?_
  show G 0 [mw_i x, mw_i c] [] E h
  refine mw_iload hG a215_0 rfl ?_
  refine mw_iload hG a215_1 rfl ?_
  refine mw_any hG a215_2 ?_
  refine mw_push hG a215_3 mw_c1 ?_
  refine mw_any hG a215_4 ?_
  rw [mw_hs hc]
  refine mw_push hG a215_5 mw_c1 ?_
  refine mw_icmp_ne hG a215_6 (by split <;> omega) (by omega) (fun z6 => ?_) (fun z6 => ?_)
  · refine mw_push hG a215_13 mw_c0 ?_
    refine mw_iret hG a215_14 (Or.inr ⟨rfl, by omega⟩) (hF _ _ _ ⟨rfl, rfl, _, rfl, ?_⟩)
    constructor
    · omega
    · constructor
      · intro hz
        first | (exfalso; omega) | (by_cases hb : sy_bt (Int32.ofInt x) c.toNat = true; exact hb; rw [if_neg hb] at z6; exfalso; omega)
      · intro hb
        first | rfl | (rw [if_pos hb] at z6; exfalso; omega)
  · refine mw_push hG a215_9 mw_c1 ?_
    refine mw_goto hG a215_10 ?_
    refine mw_iret hG a215_14 (Or.inr ⟨rfl, by omega⟩) (hF _ _ _ ⟨rfl, rfl, _, rfl, ?_⟩)
    constructor
    · omega
    · constructor
      · intro hz
        first | (exfalso; omega) | (by_cases hb : sy_bt (Int32.ofInt x) c.toNat = true; exact hb; rw [if_neg hb] at z6; exfalso; omega)
      · intro hb
        first | rfl | (rw [if_pos hb] at z6; exfalso; omega)
set_option maxRecDepth 20000 in
theorem mo_mown (hen : en_ok) {lc : Launch} {h0 h : ev_H} {E : e2_E} {B : Nat → Int} {fk a fp en tok num : Int} {nm : Nat} {cs wi pi ui : Int} {R : Nat → Int → Int} {bk W M : Int} (hV : mo_V h0 h (mw_o B fk a fp en tok num nm cs wi pi ui) R) (b0 : B 0 = bk) (hK : mo_K R bk W M) : mw_Cp lc 2 221 [(2, 83, 0)] E h (fun _ => True) := by
  refine mw_con (D := 1) (C := evd_221) (X := e2x_221) [] hen ei_221 ex2_221 (Nat.le_of_ble_eq_true rfl) fun d0 F G hd hF hG => ?_
  show G 0 [(2, 83, 0), (9, 0, 0), (9, 0, 0)] [] E h
  have kk := hK.2.2.1
  have l4 : ∀ (n : Nat) (c s : Int), 0 ≤ c → c + n = W → G 4 [(2, 83, 0), mw_i s, mw_i c] [] E h := by
    intro n
    induction n with
    | zero =>
      intro c s h1 h2
      refine mw_iload hG a221_4 rfl ?_
      refine mw_aload hG a221_5 rfl ?_
      refine mo_vp0 hG hV a221_6 (mo_width hen hV b0 hK) rfl (by omega) fun y6 hy6 => ?_
      rw [hy6]
      refine mw_icmp_ge hG a221_9 (by omega) (by omega) (fun z9 => ?_) (fun z9 => by exfalso; omega)
      refine mw_iload hG a221_35 rfl ?_
      refine mw_iret hG a221_36 (Or.inl rfl) (hF _ _ _ ⟨rfl, rfl, _, rfl, ?_⟩)
      trivial
    | succ n ih =>
      intro c s h1 h2
      refine mw_iload hG a221_4 rfl ?_
      refine mw_aload hG a221_5 rfl ?_
      refine mo_vp0 hG hV a221_6 (mo_width hen hV b0 hK) rfl (by omega) fun y6 hy6 => ?_
      rw [hy6]
      refine mw_icmp_ge hG a221_9 (by omega) (by omega) (fun z9 => by exfalso; omega) (fun z9 => ?_)
      refine mw_aload hG a221_12 rfl ?_
      refine mo_geta hG hV a221_13 rfl ?_
      refine mw_push hG a221_16 mw_c0 ?_
      refine mw_iload hG a221_17 rfl ?_
      refine mw_add hG a221_18 ?_
      refine mo_ald hG hV a221_19 rfl (by omega) ?_
      refine mw_ifc_lt hG a221_20 (by have := hK.g112 (i := 0 + c) (by omega); omega) (fun z20 => ?_) (fun z20 => ?_)
      · refine mw_iinc hG a221_29 mw_c1 rfl rfl rfl ?_
        refine mw_goto hG a221_32 ?_
        exact ih _ _ (by omega) (by omega)
      · refine mw_iload hG a221_23 rfl ?_
        refine mw_push hG a221_24 mw_c1 ?_
        refine mw_iload hG a221_25 rfl ?_
        refine mw_any hG a221_26 ?_
        refine mw_any hG a221_27 ?_
        refine mw_istore hG a221_28 rfl (Nat.le_of_ble_eq_true rfl) rfl ?_
        refine mw_iinc hG a221_29 mw_c1 rfl rfl rfl ?_
        refine mw_goto hG a221_32 ?_
        exact ih _ _ (by omega) (by omega)
  refine mw_push hG a221_0 mw_c0 ?_
  refine mw_istore hG a221_1 rfl (Nat.le_of_ble_eq_true rfl) rfl ?_
  refine mw_push hG a221_2 mw_c0 ?_
  refine mw_istore hG a221_3 rfl (Nat.le_of_ble_eq_true rfl) rfl ?_
  exact l4 W.toNat _ _ (by omega) (by omega)
set_option maxRecDepth 20000 in
theorem mo_looks (hen : en_ok) {lc : Launch} {h0 h : ev_H} {E : e2_E} {B : Nat → Int} {fk a fp en tok num : Int} {nm : Nat} {cs wi pi ui : Int} {R : Nat → Int → Int} {bk W M : Int} (hV : mo_V h0 h (mw_o B fk a fp en tok num nm cs wi pi ui) R) (b0 : B 0 = bk) (hK : mo_K R bk W M) : mw_Cp lc 3 222 [(2, 83, 0)] E h (fun _ => True) := by
  refine mw_con (D := 2) (C := evd_222) (X := e2x_222) [] hen ei_222 ex2_222 (Nat.le_of_ble_eq_true rfl) fun d0 F G hd hF hG => ?_
  show G 0 [(2, 83, 0)] [] E h
  have kk := hK.2.2.1
  refine mw_aload hG a222_0 rfl ?_
  refine mo_vp0 hG hV a222_1 (mo_mown hen hV b0 hK) rfl (by omega) fun y1 _ => ?_
  refine mw_aload hG a222_4 rfl ?_
  refine mo_geta hG hV a222_5 rfl ?_
  refine mw_aload hG a222_8 rfl ?_
  refine mo_g0 hG hV a222_9 b0 ?_
  refine mo_ald hG hV a222_12 rfl (by omega) ?_
  refine mw_any hG a222_13 ?_
  refine mw_iret hG a222_14 (Or.inl rfl) (hF _ _ _ ⟨rfl, rfl, _, rfl, ?_⟩)
  trivial
set_option maxRecDepth 20000 in
theorem mo_openCells (hen : en_ok) {lc : Launch} {h0 h : ev_H} {E : e2_E} {B : Nat → Int} {fk a fp en tok num : Int} {nm : Nat} {cs wi pi ui : Int} {R : Nat → Int → Int} {bk W M : Int} (hV : mo_V h0 h (mw_o B fk a fp en tok num nm cs wi pi ui) R) (b0 : B 0 = bk) (hK : mo_K R bk W M) : mw_Cp lc 4 223 [(2, 83, 0)] E h (fun _ => True) := by
  refine mw_con (D := 3) (C := evd_223) (X := e2x_223) [] hen ei_223 ex2_223 (Nat.le_of_ble_eq_true rfl) fun d0 F G hd hF hG => ?_
  show G 0 [(2, 83, 0)] [] E h
  have kk := hK.2.2.1
  refine mw_push hG a223_0 mw_c1 ?_
  refine mw_aload hG a223_1 rfl ?_
  refine mo_vp0 hG hV a223_2 (mo_width hen hV b0 hK) rfl (by omega) fun y2 hy2 => ?_
  rw [hy2]
  refine mw_any hG a223_5 ?_
  refine mw_push hG a223_6 mw_c1 ?_
  refine mw_sub hG a223_7 ?_
  refine mw_aload hG a223_8 rfl ?_
  refine mo_vp0 hG hV a223_9 (mo_looks hen hV b0 hK) rfl (by omega) fun y9 _ => ?_
  refine mw_push hG a223_12 mw_cm1 ?_
  refine mw_any hG a223_13 ?_
  refine mw_any hG a223_14 ?_
  refine mw_iret hG a223_15 (Or.inl rfl) (hF _ _ _ ⟨rfl, rfl, _, rfl, ?_⟩)
  trivial
set_option maxRecDepth 20000 in
theorem mo_bitsOf (hen : en_ok) {lc : Launch} {h : ev_H} {E : e2_E} {x0 : Int} (hx : -2147483648 ≤ x0 ∧ x0 < 2147483648) : mw_Cp lc 1 214 [mw_i x0] E h (fun z => z = (mw_ct (Int32.ofInt x0) 32 : Nat)) := by
  refine mw_con (D := 0) (C := evd_214) (X := e2x_214) [] hen ei_214 ex2_214 (Nat.le_of_ble_eq_true rfl) fun d0 F G hd hF hG => ?_
  show G 0 [mw_i x0, (9, 0, 0), (9, 0, 0)] [] E h
  have l4 : ∀ (m : Nat) (x n : Int), (-2147483648 ≤ x ∧ x < 2147483648) → mw_ct (Int32.ofInt x) 32 = m → n + m = (mw_ct (Int32.ofInt x0) 32 : Nat) → G 4 [mw_i x0, mw_i n, mw_i x] [] E h := by
    intro m
    induction m with
    | zero =>
      intro x n hx h1 h2
      refine mw_iload hG a214_4 rfl ?_
      refine mw_ifc_eq hG a214_5 hx (fun z5 => ?_) (fun z5 => ?_)
      · refine mw_iload hG a214_20 rfl ?_
        refine mw_iret hG a214_21 (Or.inl rfl) (hF _ _ _ ⟨rfl, rfl, _, rfl, ?_⟩)
        omega
      · have hne : Int32.ofInt x ≠ 0 := fun e => z5 ((mw_eq hx mw_r0).mp (e.trans mw_e0))
        have hlow := mw_ct_low hne
        rw [h1] at hlow
        exfalso
        omega
    | succ m ih =>
      intro x n hx h1 h2
      refine mw_iload hG a214_4 rfl ?_
      refine mw_ifc_eq hG a214_5 hx (fun z5 => ?_) (fun z5 => ?_)
      · refine mw_iload hG a214_20 rfl ?_
        refine mw_iret hG a214_21 (Or.inl rfl) (hF _ _ _ ⟨rfl, rfl, _, rfl, ?_⟩)
        have hx0 : x = 0 := z5
        rw [hx0, ← mw_e0, mw_ct_0] at h1
        omega
      · have hne : Int32.ofInt x ≠ 0 := fun e => z5 ((mw_eq hx mw_r0).mp (e.trans mw_e0))
        have hlow := mw_ct_low hne
        rw [h1, show eb_sub (Int32.ofInt x) 1 = Int32.ofInt (x - 1) by rw [Int32.ofInt_sub]; rfl] at hlow
        refine mw_iinc hG a214_8 mw_c1 rfl rfl rfl ?_
        refine mw_iload hG a214_11 rfl ?_
        refine mw_iload hG a214_12 rfl ?_
        refine mw_push hG a214_13 mw_c1 ?_
        refine mw_sub hG a214_14 ?_
        refine mw_any hG a214_15 ?_
        refine mw_istore hG a214_16 rfl (Nat.le_of_ble_eq_true rfl) rfl ?_
        refine mw_goto hG a214_17 ?_
        refine ih _ _ (mw_rI _) ?_ (by omega)
        rw [Int32.ofInt_toInt]
        omega
  refine mw_push hG a214_0 mw_c0 ?_
  refine mw_istore hG a214_1 rfl (Nat.le_of_ble_eq_true rfl) rfl ?_
  refine mw_iload hG a214_2 rfl ?_
  refine mw_istore hG a214_3 rfl (Nat.le_of_ble_eq_true rfl) rfl ?_
  exact l4 _ _ _ hx rfl (by omega)
set_option maxRecDepth 20000 in
theorem mo_bound (hen : en_ok) {lc : Launch} {h : ev_H} {E : e2_E} {v m : Int} (hv : -2147483648 ≤ v ∧ v < 2147483648) (hm : 0 ≤ m ∧ m ≤ 1000) : mw_Cp lc 1 213 [mw_i v, mw_i m] E h (fun z => -2147483648 ≤ z ∧ z ≤ 2147483647) := by
  refine mw_con (D := 0) (C := evd_213) (X := e2x_213) [] hen ei_213 ex2_213 (Nat.le_of_ble_eq_true rfl) fun d0 F G hd hF hG => ?_
  show G 0 [mw_i v, mw_i m] [] E h
  refine mw_iload hG a213_0 rfl ?_
  refine mw_iload hG a213_1 rfl ?_
  refine mw_icmp_le hG a213_2 (by omega) (by omega) (fun z2 => ?_) (fun z2 => ?_)
  · refine mw_iload hG a213_9 rfl ?_
    refine mw_iload hG a213_10 rfl ?_
    refine mw_neg hG a213_11 ?_
    refine mw_icmp_ge hG a213_12 (by omega) (by omega) (fun z12 => ?_) (fun z12 => ?_)
    · refine mw_iload hG a213_20 rfl ?_
      refine mw_iret hG a213_21 (Or.inl rfl) (hF _ _ _ ⟨rfl, rfl, _, rfl, ?_⟩)
      omega
    · refine mw_iload hG a213_15 rfl ?_
      refine mw_neg hG a213_16 ?_
      refine mw_goto hG a213_17 ?_
      refine mw_iret hG a213_21 (Or.inl rfl) (hF _ _ _ ⟨rfl, rfl, _, rfl, ?_⟩)
      omega
  · refine mw_iload hG a213_5 rfl ?_
    refine mw_goto hG a213_6 ?_
    refine mw_iret hG a213_21 (Or.inl rfl) (hF _ _ _ ⟨rfl, rfl, _, rfl, ?_⟩)
    omega
set_option maxRecDepth 20000 in
theorem mo_place (hen : en_ok) {lc : Launch} {h : ev_H} {E : e2_E} {c d : Int} : mw_Cp lc 1 227 [mw_i c, mw_i d] E h (fun z => z = 9 * c + d) := by
  refine mw_con (D := 0) (C := evd_227) (X := e2x_227) [] hen ei_227 ex2_227 (Nat.le_of_ble_eq_true rfl) fun d0 F G hd hF hG => ?_
  show G 0 [mw_i c, mw_i d] [] E h
  refine mw_push hG a227_0 mw_c9 ?_
  refine mw_iload hG a227_2 rfl ?_
  refine mw_mul hG a227_3 ?_
  refine mw_iload hG a227_4 rfl ?_
  refine mw_add hG a227_5 ?_
  refine mw_iret hG a227_6 (Or.inl rfl) (hF _ _ _ ⟨rfl, rfl, _, rfl, ?_⟩)
  rfl
set_option maxRecDepth 20000 in
theorem mo_sumWays (hen : en_ok) {lc : Launch} {h : ev_H} {E : e2_E} {c d : Int} : mw_Cp lc 1 228 [(2, 83, 0), mw_i c, mw_i d] E h (fun _ => True) := by
  refine mw_con (D := 0) (C := evd_228) (X := e2x_228) [] hen ei_228 ex2_228 (Nat.le_of_ble_eq_true rfl) fun d0 F G hd hF hG => ?_
  show G 0 [(2, 83, 0), mw_i c, mw_i d] [] E h
  refine mw_iload hG a228_0 rfl ?_
  refine mw_iload hG a228_1 rfl ?_
  refine mw_add hG a228_2 ?_
  refine mw_norm ?_
  refine mw_push hG a228_3 mw_c1000000 ?_
  refine mw_icmp_le hG a228_6 (mw_rn _) (by omega) (fun z6 => ?_) (fun z6 => ?_)
  · refine mw_iload hG a228_15 rfl ?_
    refine mw_iload hG a228_16 rfl ?_
    refine mw_add hG a228_17 ?_
    refine mw_iret hG a228_18 (Or.inl rfl) (hF _ _ _ ⟨rfl, rfl, _, rfl, ?_⟩)
    trivial
  · refine mw_push hG a228_9 mw_c1000000 ?_
    refine mw_goto hG a228_12 ?_
    refine mw_iret hG a228_18 (Or.inl rfl) (hF _ _ _ ⟨rfl, rfl, _, rfl, ?_⟩)
    trivial
set_option maxRecDepth 20000 in
theorem mo_canFollow (hen : en_ok) {lc : Launch} {h0 h : ev_H} {E : e2_E} {B : Nat → Int} {fk a fp en tok num : Int} {nm : Nat} {cs wi pi ui : Int} {R : Nat → Int → Int} {bk W M : Int} (hV : mo_V h0 h (mw_o B fk a fp en tok num nm cs wi pi ui) R) (b0 : B 0 = bk) (hK : mo_K R bk W M) {d g : Int} (hd8 : 0 ≤ d ∧ d ≤ 8) (hg : 0 ≤ g ∧ g < 8) : mw_Cp lc 2 226 [(2, 83, 0), mw_i d, mw_i g] E h (fun z => z = 0 ∨ z = 1) := by
  refine mw_con (D := 1) (C := evd_226) (X := e2x_226) [] hen ei_226 ex2_226 (Nat.le_of_ble_eq_true rfl) fun d0 F G hd hF hG => ?_
  show G 0 [(2, 83, 0), mw_i d, mw_i g] [] E h
  have kk := hK.2.2.1
  refine mw_iload hG a226_0 rfl ?_
  refine mw_push hG a226_1 mw_c8 ?_
  refine mw_icmp_eq hG a226_3 (by omega) (by omega) (fun z3 => ?_) (fun z3 => ?_)
  · refine mw_push hG a226_27 mw_c1 ?_
    refine mw_goto hG a226_28 ?_
    refine mw_iret hG a226_32 (Or.inr ⟨rfl, by omega⟩) (hF _ _ _ ⟨rfl, rfl, _, rfl, ?_⟩)
    omega
  · refine mw_aload hG a226_6 rfl ?_
    refine mo_geta hG hV a226_7 rfl ?_
    refine mw_push hG a226_10 mw_c8 ?_
    refine mw_aload hG a226_12 rfl ?_
    refine mo_g0 hG hV a226_13 b0 ?_
    refine mw_mul hG a226_16 ?_
    refine mw_iload hG a226_17 rfl ?_
    refine mw_add hG a226_18 ?_
    refine mo_ald hG hV a226_19 rfl (by omega) ?_
    refine mw_iload hG a226_20 rfl ?_
    refine mw_sp2 hG a226_21 (mo_has hen (by omega)) rfl (by omega) fun y21 hy21 => ?_
    have hz21 := hy21.1
    refine mw_ifc_ne hG a226_24 (by omega) (fun z24 => ?_) (fun z24 => ?_)
    · refine mw_push hG a226_31 mw_c0 ?_
      refine mw_iret hG a226_32 (Or.inr ⟨rfl, by omega⟩) (hF _ _ _ ⟨rfl, rfl, _, rfl, ?_⟩)
      omega
    · refine mw_push hG a226_27 mw_c1 ?_
      refine mw_goto hG a226_28 ?_
      refine mw_iret hG a226_32 (Or.inr ⟨rfl, by omega⟩) (hF _ _ _ ⟨rfl, rfl, _, rfl, ?_⟩)
      omega
set_option maxRecDepth 20000 in
theorem mo_doesLie (hen : en_ok) {lc : Launch} {h0 h : ev_H} {E : e2_E} {B : Nat → Int} {fk a fp en tok num : Int} {nm : Nat} {cs wi pi ui : Int} {R : Nat → Int → Int} {bk W M : Int} (hV : mo_V h0 h (mw_o B fk a fp en tok num nm cs wi pi ui) R) (b0 : B 0 = bk) (hK : mo_K R bk W M) {g c s : Int} (hg : 0 ≤ g ∧ g < M) (hc : 0 ≤ c ∧ c ≤ 20) : mw_Cp lc 2 225 [(2, 83, 0), mw_i g, mw_i c, mw_i s] E h (fun z => (z = 0 ∨ z = 1) ∧ (z = 1 → c + R 97 (8 * bk + g) ≤ W)) := by
  refine mw_con (D := 1) (C := evd_225) (X := e2x_225) [] hen ei_225 ex2_225 (Nat.le_of_ble_eq_true rfl) fun d0 F G hd hF hG => ?_
  show G 0 [(2, 83, 0), mw_i g, mw_i c, mw_i s, (9, 0, 0)] [] E h
  have kk := hK.2.2.1
  have gl := hK.let hg
  refine mw_push hG a225_0 mw_c8 ?_
  refine mw_aload hG a225_2 rfl ?_
  refine mo_g0 hG hV a225_3 b0 ?_
  refine mw_mul hG a225_6 ?_
  refine mw_iload hG a225_7 rfl ?_
  refine mw_add hG a225_8 ?_
  refine mw_istore hG a225_9 rfl (Nat.le_of_ble_eq_true rfl) rfl ?_
  refine mw_iload hG a225_11 rfl ?_
  refine mw_aload hG a225_12 rfl ?_
  refine mo_geta hG hV a225_13 rfl ?_
  refine mw_iload hG a225_16 rfl ?_
  refine mo_ald hG hV a225_18 rfl (by omega) ?_
  refine mw_add hG a225_19 ?_
  refine mw_aload hG a225_20 rfl ?_
  refine mo_vp0 hG hV a225_21 (mo_width hen hV b0 hK) rfl (by omega) fun y21 hy21 => ?_
  rw [hy21]
  refine mw_icmp_gt hG a225_24 (by omega) (by omega) (fun z24 => ?_) (fun z24 => ?_)
  · refine mw_push hG a225_56 mw_c0 ?_
    refine mw_iret hG a225_57 (Or.inr ⟨rfl, by omega⟩) (hF _ _ _ ⟨rfl, rfl, _, rfl, ?_⟩)
    constructor <;> omega
  · refine mw_iload hG a225_27 rfl ?_
    refine mw_iload hG a225_28 rfl ?_
    refine mw_any hG a225_29 ?_
    refine mw_push hG a225_30 mw_c1 ?_
    refine mw_aload hG a225_31 rfl ?_
    refine mo_geta hG hV a225_32 rfl ?_
    refine mw_iload hG a225_35 rfl ?_
    refine mo_ald hG hV a225_37 rfl (by omega) ?_
    refine mw_any hG a225_38 ?_
    refine mw_push hG a225_39 mw_c1 ?_
    refine mw_sub hG a225_40 ?_
    refine mw_any hG a225_41 ?_
    refine mw_aload hG a225_42 rfl ?_
    refine mo_geta hG hV a225_43 rfl ?_
    refine mw_iload hG a225_46 rfl ?_
    refine mo_ald hG hV a225_48 rfl (by omega) ?_
    have g96 := hK.g96 (i := 8 * bk + g) (by omega)
    refine mw_icmp_ne hG a225_49 (mw_rI _) (by omega) (fun z49 => ?_) (fun z49 => ?_)
    · refine mw_push hG a225_56 mw_c0 ?_
      refine mw_iret hG a225_57 (Or.inr ⟨rfl, by omega⟩) (hF _ _ _ ⟨rfl, rfl, _, rfl, ?_⟩)
      constructor <;> omega
    · refine mw_push hG a225_52 mw_c1 ?_
      refine mw_goto hG a225_53 ?_
      refine mw_iret hG a225_57 (Or.inr ⟨rfl, by omega⟩) (hF _ _ _ ⟨rfl, rfl, _, rfl, ?_⟩)
      constructor <;> omega
set_option maxHeartbeats 4000000 in
set_option maxRecDepth 20000 in
theorem mo_layFrom (hen : en_ok) {lc : Launch} {h0 h : ev_H} {E : e2_E} {B : Nat → Int} {fk a fp en tok num : Int} {nm : Nat} {cs wi pi ui : Int} {R : Nat → Int → Int} {bk W M : Int} (hV : mo_V h0 h (mw_o B fk a fp en tok num nm cs wi pi ui) R) (b0 : B 0 = bk) (hK : mo_K R bk W M) {c d s : Int} (hc : 0 ≤ c ∧ c < W) (hd8 : 0 ≤ d ∧ d ≤ 8) : mw_Cv lc 3 229 [(2, 83, 0), mw_i c, mw_i d, mw_i s] E h (fun h' => ∃ R2, mo_V h0 h' (mw_o B fk a fp en tok num nm cs wi pi ui) R2 ∧ mo_K R2 bk W M ∧ mo_fr [114, 115, 116, 117] R R2) := by
  refine mw_con (D := 2) (C := evd_229) (X := hx_229) [] hen ei_229 hxe_229 (Nat.le_of_ble_eq_true rfl) fun d0 F G hd hF hG => ?_
  show G 0 [(2, 83, 0), mw_i c, mw_i d, mw_i s, (9, 0, 0), (9, 0, 0), (9, 0, 0), (9, 0, 0)] [] E h
  have kk := hK.2.2.1
  have t172 : ∀ (h : ev_H) (R2 : Nat → Int → Int) (g : Int) (v6 v7 : ev_V), mo_V h0 h (mw_o B fk a fp en tok num nm cs wi pi ui) R2 → mo_K R2 bk W M → mo_fr [114, 115, 116, 117] R R2 → G 172 [(2, 83, 0), mw_i c, mw_i d, mw_i s, mw_i (9 * c + d), mw_i g, v6, v7] [] E h := by
    intro h R2 g v6 v7 hV hK hQ
    refine mw_iload hG a229_172 rfl ?_
    refine mw_iload hG a229_173 rfl ?_
    refine mw_sp2 hG a229_174 (mo_has hen (by omega)) rfl (by omega) fun y174 hy174 => ?_
    have hz174 := hy174.1
    refine mw_ifc_ne hG a229_177 (by omega) (fun z177 => ?_) (fun z177 => ?_)
    · refine mw_vret hG a229_195 (hF _ _ _ ⟨rfl, rfl, _, hV, hK, hQ⟩)
    · refine mw_aload hG a229_180 rfl ?_
      refine mo_geta hG hV a229_181 rfl ?_
      refine mw_iload hG a229_184 rfl ?_
      refine mw_push hG a229_185 mw_c1 ?_
      refine mw_add hG a229_186 ?_
      refine mw_iload hG a229_187 rfl ?_
      refine mw_sp2 hG a229_188 (mo_place hen) rfl (by omega) fun y188 hy188 => ?_
      rw [hy188]
      have u191 := hK.g115 (i := 9 * (c + 1) + d) (by omega)
      refine mo_ald hG hV a229_191 rfl (by omega) ?_
      refine mw_ifc_ne hG a229_192 (by omega) (fun z192 => ?_) (fun z192 => ?_)
      · refine mw_aload hG a229_196 rfl ?_
        refine mo_geta hG hV a229_197 rfl ?_
        refine mw_iload hG a229_200 rfl ?_
        refine mw_aload hG a229_202 rfl ?_
        refine mw_aload hG a229_203 rfl ?_
        refine mo_geta hG hV a229_204 rfl ?_
        refine mw_iload hG a229_207 rfl ?_
        refine mo_ald hG hV a229_209 rfl (by omega) ?_
        refine mw_aload hG a229_210 rfl ?_
        refine mo_geta hG hV a229_211 rfl ?_
        refine mw_iload hG a229_214 rfl ?_
        refine mw_push hG a229_215 mw_c1 ?_
        refine mw_add hG a229_216 ?_
        refine mw_iload hG a229_217 rfl ?_
        refine mw_sp2 hG a229_218 (mo_place hen) rfl (by omega) fun y218 hy218 => ?_
        rw [hy218]
        refine mo_ald hG hV a229_221 rfl (by omega) ?_
        refine mo_vp2 hG hV a229_222 (mo_sumWays hen) rfl (by omega) fun y222 _ => ?_
        refine mw_norm ?_
        refine mo_ist hG hV a229_225 rfl (by omega) fun h R225 hV hR225 => ?_
        have hK := hK.p115 hR225 (mw_rn2 _)
        have hQ := hQ.up hR225 (by decide)
        refine mw_aload hG a229_226 rfl ?_
        refine mo_geta hG hV a229_227 rfl ?_
        refine mw_iload hG a229_230 rfl ?_
        refine mw_push hG a229_231 mw_c1 ?_
        refine mw_add hG a229_232 ?_
        refine mw_iload hG a229_233 rfl ?_
        refine mw_sp2 hG a229_234 (mo_place hen) rfl (by omega) fun y234 hy234 => ?_
        rw [hy234]
        refine mo_ald hG hV a229_237 rfl (by omega) ?_
        refine mw_aload hG a229_238 rfl ?_
        refine mo_geta hG hV a229_239 rfl ?_
        refine mw_iload hG a229_242 rfl ?_
        refine mo_ald hG hV a229_244 rfl (by omega) ?_
        have u245 := hK.g114 (i := 9 * (c + 1) + d) (by omega)
        have w245 := hK.g114 (i := 9 * c + d) (by omega)
        refine mw_icmp_le hG a229_245 (by omega) (by omega) (fun z245 => ?_) (fun z245 => ?_)
        · refine mw_vret hG a229_267 (hF _ _ _ ⟨rfl, rfl, _, hV, hK, hQ⟩)
        · refine mw_aload hG a229_248 rfl ?_
          refine mo_geta hG hV a229_249 rfl ?_
          refine mw_iload hG a229_252 rfl ?_
          refine mw_aload hG a229_254 rfl ?_
          refine mo_geta hG hV a229_255 rfl ?_
          refine mw_iload hG a229_258 rfl ?_
          refine mw_push hG a229_259 mw_c1 ?_
          refine mw_add hG a229_260 ?_
          refine mw_iload hG a229_261 rfl ?_
          refine mw_sp2 hG a229_262 (mo_place hen) rfl (by omega) fun y262 hy262 => ?_
          rw [hy262]
          refine mo_ald hG hV a229_265 rfl (by omega) ?_
          have u266 := hK.g114 (i := 9 * (c + 1) + d) (by omega)
          refine mo_ist hG hV a229_266 rfl (by omega) fun h R266 hV hR266 => ?_
          have hK := hK.p114 hR266 (by omega)
          have hQ := hQ.up hR266 (by decide)
          refine mw_vret hG a229_267 (hF _ _ _ ⟨rfl, rfl, _, hV, hK, hQ⟩)
      · refine mw_vret hG a229_195 (hF _ _ _ ⟨rfl, rfl, _, hV, hK, hQ⟩)
  have l28 : ∀ (n : Nat) (g : Int) (h : ev_H) (R2 : Nat → Int → Int) (v6 v7 : ev_V), mo_V h0 h (mw_o B fk a fp en tok num nm cs wi pi ui) R2 → mo_K R2 bk W M → mo_fr [114, 115, 116, 117] R R2 → 0 ≤ g → g + n = M → G 28 [(2, 83, 0), mw_i c, mw_i d, mw_i s, mw_i (9 * c + d), mw_i g, v6, v7] [] E h := by
    intro n
    induction n with
    | zero =>
      intro g h R2 v6 v7 hV hK hQ h1 h2
      refine mw_iload hG a229_28 rfl ?_
      refine mw_aload hG a229_30 rfl ?_
      refine mo_vp0 hG hV a229_31 (mo_many hen hV b0 hK) rfl (by omega) fun y31 hy31 => ?_
      rw [hy31]
      refine mw_icmp_ge hG a229_34 (by omega) (by omega) (fun z34 => ?_) (fun z34 => by exfalso; omega)
      exact t172 _ _ _ _ _ hV hK hQ
    | succ n ih =>
      intro g h R2 v6 v7 hV hK hQ h1 h2
      refine mw_iload hG a229_28 rfl ?_
      refine mw_aload hG a229_30 rfl ?_
      refine mo_vp0 hG hV a229_31 (mo_many hen hV b0 hK) rfl (by omega) fun y31 hy31 => ?_
      rw [hy31]
      refine mw_icmp_ge hG a229_34 (by omega) (by omega) (fun z34 => by exfalso; omega) (fun z34 => ?_)
      refine mw_aload hG a229_37 rfl ?_
      refine mw_iload hG a229_38 rfl ?_
      refine mw_iload hG a229_39 rfl ?_
      refine mo_vp2 hG hV a229_41 (mo_canFollow hen hV b0 hK (by omega) (by omega)) rfl (by omega) fun y41 hy41 => ?_
      refine mw_ifc_eq hG a229_44 (by omega) (fun z44 => ?_) (fun z44 => ?_)
      · refine mw_iinc hG a229_166 mw_c1 rfl rfl rfl ?_
        refine mw_goto hG a229_169 ?_
        exact ih _ _ _ _ _ hV hK hQ (by omega) (by omega)
      · refine mw_aload hG a229_47 rfl ?_
        refine mw_iload hG a229_48 rfl ?_
        refine mw_iload hG a229_50 rfl ?_
        refine mw_iload hG a229_51 rfl ?_
        refine mo_vp3 hG hV a229_52 (mo_doesLie hen hV b0 hK (by omega) (by omega)) rfl (by omega) fun y52 hy52 => ?_
        have hz52 := hy52.1
        have hw52 := hy52.2
        refine mw_ifc_ne hG a229_55 (by omega) (fun z55 => ?_) (fun z55 => ?_)
        · refine mw_iload hG a229_61 rfl ?_
          refine mw_aload hG a229_62 rfl ?_
          refine mo_geta hG hV a229_63 rfl ?_
          refine mw_push hG a229_66 mw_c8 ?_
          refine mw_aload hG a229_68 rfl ?_
          refine mo_g0 hG hV a229_69 b0 ?_
          refine mw_mul hG a229_72 ?_
          refine mw_iload hG a229_73 rfl ?_
          refine mw_add hG a229_75 ?_
          have hl := hK.let (g := g) (by omega)
          refine mo_ald hG hV a229_76 rfl (by omega) ?_
          refine mw_add hG a229_77 ?_
          refine mw_iload hG a229_78 rfl ?_
          refine mw_sp2 hG a229_80 (mo_place hen) rfl (by omega) fun y80 hy80 => ?_
          rw [hy80]
          refine mw_istore hG a229_83 rfl (Nat.le_of_ble_eq_true rfl) rfl ?_
          refine mw_aload hG a229_85 rfl ?_
          refine mo_geta hG hV a229_86 rfl ?_
          refine mw_iload hG a229_89 rfl ?_
          refine mo_ald hG hV a229_91 rfl (by omega) ?_
          have u92 := hK.g115 (i := 9 * (c + R2 97 (8 * bk + g)) + g) (by omega)
          refine mw_ifc_ne hG a229_92 (by omega) (fun z92 => ?_) (fun z92 => ?_)
          · refine mw_aload hG a229_98 rfl ?_
            refine mo_geta hG hV a229_99 rfl ?_
            refine mw_iload hG a229_102 rfl ?_
            refine mw_aload hG a229_104 rfl ?_
            refine mw_aload hG a229_105 rfl ?_
            refine mo_geta hG hV a229_106 rfl ?_
            refine mw_iload hG a229_109 rfl ?_
            refine mo_ald hG hV a229_111 rfl (by omega) ?_
            refine mw_aload hG a229_112 rfl ?_
            refine mo_geta hG hV a229_113 rfl ?_
            refine mw_iload hG a229_116 rfl ?_
            refine mo_ald hG hV a229_118 rfl (by omega) ?_
            refine mo_vp2 hG hV a229_119 (mo_sumWays hen) rfl (by omega) fun y119 _ => ?_
            refine mw_norm ?_
            refine mo_ist hG hV a229_122 rfl (by omega) fun h R122 hV hR122 => ?_
            have hK := hK.p115 hR122 (mw_rn2 _)
            have hQ := hQ.up hR122 (by decide)
            refine mw_aload hG a229_123 rfl ?_
            refine mo_geta hG hV a229_124 rfl ?_
            refine mw_push hG a229_127 mw_c20 ?_
            refine mw_iload hG a229_129 rfl ?_
            refine mw_mul hG a229_131 ?_
            refine mw_iload hG a229_132 rfl ?_
            refine mw_add hG a229_133 ?_
            refine mo_ald hG hV a229_134 rfl (by omega) ?_
            refine mw_aload hG a229_135 rfl ?_
            refine mo_geta hG hV a229_136 rfl ?_
            refine mw_iload hG a229_139 rfl ?_
            refine mo_ald hG hV a229_141 rfl (by omega) ?_
            refine mw_add hG a229_142 ?_
            refine mw_norm ?_
            refine mw_istore hG a229_143 rfl (Nat.le_of_ble_eq_true rfl) rfl ?_
            refine mw_iload hG a229_145 rfl ?_
            refine mw_aload hG a229_147 rfl ?_
            refine mo_geta hG hV a229_148 rfl ?_
            refine mw_iload hG a229_151 rfl ?_
            refine mo_ald hG hV a229_153 rfl (by omega) ?_
            have u154 := hK.g114 (i := 9 * c + d) (by omega)
            refine mw_icmp_le hG a229_154 (mw_rn _) (by omega) (fun z154 => ?_) (fun z154 => ?_)
            · refine mw_iinc hG a229_166 mw_c1 rfl rfl rfl ?_
              refine mw_goto hG a229_169 ?_
              exact ih _ _ _ _ _ hV hK hQ (by omega) (by omega)
            · refine mw_aload hG a229_157 rfl ?_
              refine mo_geta hG hV a229_158 rfl ?_
              refine mw_iload hG a229_161 rfl ?_
              refine mw_iload hG a229_163 rfl ?_
              refine mo_ist hG hV a229_165 rfl (by omega) fun h R165 hV hR165 => ?_
              have hK := hK.p114 hR165 (mw_rn2 _)
              have hQ := hQ.up hR165 (by decide)
              refine mw_iinc hG a229_166 mw_c1 rfl rfl rfl ?_
              refine mw_goto hG a229_169 ?_
              exact ih _ _ _ _ _ hV hK hQ (by omega) (by omega)
          · refine mw_goto hG a229_95 ?_
            refine mw_iinc hG a229_166 mw_c1 rfl rfl rfl ?_
            refine mw_goto hG a229_169 ?_
            exact ih _ _ _ _ _ hV hK hQ (by omega) (by omega)
        · refine mw_goto hG a229_58 ?_
          refine mw_iinc hG a229_166 mw_c1 rfl rfl rfl ?_
          refine mw_goto hG a229_169 ?_
          exact ih _ _ _ _ _ hV hK hQ (by omega) (by omega)
  refine mw_iload hG a229_0 rfl ?_
  refine mw_iload hG a229_1 rfl ?_
  refine mw_sp2 hG a229_2 (mo_place hen) rfl (by omega) fun y2 hy2 => ?_
  rw [hy2]
  refine mw_istore hG a229_5 rfl (Nat.le_of_ble_eq_true rfl) rfl ?_
  refine mw_aload hG a229_7 rfl ?_
  refine mo_geta hG hV a229_8 rfl ?_
  refine mw_iload hG a229_11 rfl ?_
  refine mw_push hG a229_13 mw_cm100000 ?_
  have hQ := mo_fr.rf [114, 115, 116, 117] R
  refine mo_ist hG hV a229_16 rfl (by omega) fun h R16 hV hR16 => ?_
  have hK := hK.p114 hR16 (by omega)
  have hQ := hQ.up hR16 (by decide)
  refine mw_aload hG a229_17 rfl ?_
  refine mo_geta hG hV a229_18 rfl ?_
  refine mw_iload hG a229_21 rfl ?_
  refine mw_push hG a229_23 mw_c0 ?_
  refine mo_ist hG hV a229_24 rfl (by omega) fun h R24 hV hR24 => ?_
  have hK := hK.p115 hR24 (by omega)
  have hQ := hQ.up hR24 (by decide)
  refine mw_push hG a229_25 mw_c0 ?_
  refine mw_istore hG a229_26 rfl (Nat.le_of_ble_eq_true rfl) rfl ?_
  exact l28 M.toNat _ _ _ _ _ hV hK hQ (by omega) (by omega)
set_option maxHeartbeats 4000000 in
set_option maxRecDepth 20000 in
theorem mo_nextAt (hen : en_ok) {lc : Launch} {h0 h : ev_H} {E : e2_E} {B : Nat → Int} {fk a fp en tok num : Int} {nm : Nat} {cs wi pi ui : Int} {R : Nat → Int → Int} {bk W M : Int} (hV : mo_V h0 h (mw_o B fk a fp en tok num nm cs wi pi ui) R) (b0 : B 0 = bk) (hK : mo_K R bk W M) {c d s : Int} (hc : 0 ≤ c ∧ c < W) (hd8 : 0 ≤ d ∧ d ≤ 8) : mw_Cp lc 3 231 [(2, 83, 0), mw_i c, mw_i d, mw_i s] E h (fun z => z = -1 ∨ (0 ≤ z ∧ z < M ∧ c + R 97 (8 * bk + z) ≤ W)) := by
  refine mw_con (D := 2) (C := evd_231) (X := hx_231) [] hen ei_231 hxe_231 (Nat.le_of_ble_eq_true rfl) fun d0 F G hd hF hG => ?_
  show G 0 [(2, 83, 0), mw_i c, mw_i d, mw_i s, (9, 0, 0), (9, 0, 0)] [] E h
  have kk := hK.2.2.1
  have l3 : ∀ (n : Nat) (g : Int) (v5 : ev_V), 0 ≤ g → g + n = M → G 3 [(2, 83, 0), mw_i c, mw_i d, mw_i s, mw_i g, v5] [] E h := by
    intro n
    induction n with
    | zero =>
      intro g v5 h1 h2
      refine mw_iload hG a231_3 rfl ?_
      refine mw_aload hG a231_5 rfl ?_
      refine mo_vp0 hG hV a231_6 (mo_many hen hV b0 hK) rfl (by omega) fun y6 hy6 => ?_
      rw [hy6]
      refine mw_icmp_ge hG a231_9 (by omega) (by omega) (fun z9 => ?_) (fun z9 => by exfalso; omega)
      refine mw_push hG a231_112 mw_cm1 ?_
      refine mw_iret hG a231_113 (Or.inl rfl) (hF _ _ _ ⟨rfl, rfl, _, rfl, ?_⟩)
      omega
    | succ n ih =>
      intro g v5 h1 h2
      have hl := hK.let (g := g) (by omega)
      refine mw_iload hG a231_3 rfl ?_
      refine mw_aload hG a231_5 rfl ?_
      refine mo_vp0 hG hV a231_6 (mo_many hen hV b0 hK) rfl (by omega) fun y6 hy6 => ?_
      rw [hy6]
      refine mw_icmp_ge hG a231_9 (by omega) (by omega) (fun z9 => by exfalso; omega) (fun z9 => ?_)
      refine mw_aload hG a231_12 rfl ?_
      refine mw_iload hG a231_13 rfl ?_
      refine mw_iload hG a231_14 rfl ?_
      refine mo_vp2 hG hV a231_16 (mo_canFollow hen hV b0 hK (by omega) (by omega)) rfl (by omega) fun y16 hy16 => ?_
      refine mw_ifc_eq hG a231_19 (by omega) (fun z19 => ?_) (fun z19 => ?_)
      · refine mw_iinc hG a231_106 mw_c1 rfl rfl rfl ?_
        refine mw_goto hG a231_109 ?_
        exact ih _ _ (by omega) (by omega)
      · refine mw_aload hG a231_22 rfl ?_
        refine mw_iload hG a231_23 rfl ?_
        refine mw_iload hG a231_25 rfl ?_
        refine mw_iload hG a231_26 rfl ?_
        refine mo_vp3 hG hV a231_27 (mo_doesLie hen hV b0 hK (by omega) (by omega)) rfl (by omega) fun y27 hy27 => ?_
        have hz27 := hy27.1
        have hw27 := hy27.2
        refine mw_ifc_ne hG a231_30 (by omega) (fun z30 => ?_) (fun z30 => ?_)
        · refine mw_iload hG a231_36 rfl ?_
          refine mw_aload hG a231_37 rfl ?_
          refine mo_geta hG hV a231_38 rfl ?_
          refine mw_push hG a231_41 mw_c8 ?_
          refine mw_aload hG a231_43 rfl ?_
          refine mo_g0 hG hV a231_44 b0 ?_
          refine mw_mul hG a231_47 ?_
          refine mw_iload hG a231_48 rfl ?_
          refine mw_add hG a231_50 ?_
          refine mo_ald hG hV a231_51 rfl (by omega) ?_
          refine mw_add hG a231_52 ?_
          refine mw_iload hG a231_53 rfl ?_
          refine mw_sp2 hG a231_55 (mo_place hen) rfl (by omega) fun y55 hy55 => ?_
          rw [hy55]
          refine mw_istore hG a231_58 rfl (Nat.le_of_ble_eq_true rfl) rfl ?_
          refine mw_aload hG a231_60 rfl ?_
          refine mo_geta hG hV a231_61 rfl ?_
          refine mw_iload hG a231_64 rfl ?_
          refine mo_ald hG hV a231_66 rfl (by omega) ?_
          have u67 := hK.g115 (i := 9 * (c + R 97 (8 * bk + g)) + g) (by omega)
          refine mw_ifc_le hG a231_67 (by omega) (fun z67 => ?_) (fun z67 => ?_)
          · refine mw_iinc hG a231_106 mw_c1 rfl rfl rfl ?_
            refine mw_goto hG a231_109 ?_
            exact ih _ _ (by omega) (by omega)
          · refine mw_aload hG a231_70 rfl ?_
            refine mo_geta hG hV a231_71 rfl ?_
            refine mw_push hG a231_74 mw_c20 ?_
            refine mw_iload hG a231_76 rfl ?_
            refine mw_mul hG a231_78 ?_
            refine mw_iload hG a231_79 rfl ?_
            refine mw_add hG a231_80 ?_
            refine mo_ald hG hV a231_81 rfl (by omega) ?_
            refine mw_aload hG a231_82 rfl ?_
            refine mo_geta hG hV a231_83 rfl ?_
            refine mw_iload hG a231_86 rfl ?_
            refine mo_ald hG hV a231_88 rfl (by omega) ?_
            refine mw_add hG a231_89 ?_
            refine mw_norm ?_
            refine mw_aload hG a231_90 rfl ?_
            refine mo_geta hG hV a231_91 rfl ?_
            refine mw_iload hG a231_94 rfl ?_
            refine mw_iload hG a231_95 rfl ?_
            refine mw_sp2 hG a231_96 (mo_place hen) rfl (by omega) fun y96 hy96 => ?_
            rw [hy96]
            refine mo_ald hG hV a231_99 rfl (by omega) ?_
            have u100 := hK.g114 (i := 9 * c + d) (by omega)
            refine mw_icmp_ne hG a231_100 (mw_rn _) (by omega) (fun z100 => ?_) (fun z100 => ?_)
            · refine mw_iinc hG a231_106 mw_c1 rfl rfl rfl ?_
              refine mw_goto hG a231_109 ?_
              exact ih _ _ (by omega) (by omega)
            · refine mw_iload hG a231_103 rfl ?_
              refine mw_iret hG a231_105 (Or.inl rfl) (hF _ _ _ ⟨rfl, rfl, _, rfl, ?_⟩)
              exact Or.inr ⟨by omega, by omega, by omega⟩
        · refine mw_goto hG a231_33 ?_
          refine mw_iinc hG a231_106 mw_c1 rfl rfl rfl ?_
          refine mw_goto hG a231_109 ?_
          exact ih _ _ (by omega) (by omega)
  refine mw_push hG a231_0 mw_c0 ?_
  refine mw_istore hG a231_1 rfl (Nat.le_of_ble_eq_true rfl) rfl ?_
  exact l3 M.toNat _ _ (by omega) (by omega)
set_option maxHeartbeats 8000000 in
set_option maxRecDepth 20000 in
theorem mo_read (hen : en_ok) {lc : Launch} {h0 h : ev_H} {E : e2_E} {B : Nat → Int} {fk a fp en tok num : Int} {nm : Nat} {cs wi pi ui : Int} {R : Nat → Int → Int} {bk W M : Int} (hV : mo_V h0 h (mw_o B fk a fp en tok num nm cs wi pi ui) R) (b0 : B 0 = bk) (hK : mo_K R bk W M) {s : Int} : mw_Ci lc 4 230 [(2, 83, 0), mw_i s] E h (fun _ h' => ∃ R2 B2, mo_V h0 h' (mw_o B2 fk a fp en tok num nm cs wi pi ui) R2 ∧ mo_K R2 bk W M ∧ mo_fr [114, 115, 116, 117] R R2 ∧ mo_bf [11] B B2 ∧ ∃ tm, B2 11 = tm ∧ 0 ≤ tm ∧ tm ≤ 20) := by
  refine mw_con (D := 3) (C := evd_230) (X := hx_230) [] hen ei_230 hxe_230 (Nat.le_of_ble_eq_true rfl) fun d0 F G hd hF hG => ?_
  show G 0 [(2, 83, 0), mw_i s, (9, 0, 0), (9, 0, 0), (9, 0, 0)] [] E h
  have kk := hK.2.2.1
  have l120 : ∀ (n : Nat) (c d tm : Int) (v4 : ev_V) (h : ev_H) (R2 : Nat → Int → Int) (B2 : Nat → Int), mo_V h0 h (mw_o B2 fk a fp en tok num nm cs wi pi ui) R2 → mo_K R2 bk W M → mo_fr [114, 115, 116, 117] R R2 → mo_bf [11] B B2 → B2 0 = bk → B2 11 = tm → 0 ≤ c → c ≤ W → W - c ≤ n → 0 ≤ tm → tm ≤ c → 0 ≤ d → d ≤ 8 → G 120 [(2, 83, 0), mw_i s, mw_i c, mw_i d, v4] [] E h := by
    intro n
    induction n with
    | zero =>
      intro c d tm v4 h R2 B2 hV hK hQ hB b0 b11 h1 h2 h3 h4 h5 h6 h7
      refine mw_iload hG a230_120 rfl ?_
      refine mw_aload hG a230_121 rfl ?_
      refine mo_vp0 hG hV a230_122 (mo_width hen hV b0 hK) rfl (by omega) fun y122 hy122 => ?_
      rw [hy122]
      refine mw_icmp_ge hG a230_125 (by omega) (by omega) (fun z125 => ?_) (fun z125 => by exfalso; omega)
      refine mw_aload hG a230_204 rfl ?_
      refine mo_g11 hG hV a230_205 b11 ?_
      refine mw_iret hG a230_208 (Or.inl rfl) (hF _ _ _ ⟨rfl, _, rfl, _, _, hV, hK, hQ, hB, _, b11, by omega, by omega⟩)
    | succ n ih =>
      intro c d tm v4 h R2 B2 hV hK hQ hB b0 b11 h1 h2 h3 h4 h5 h6 h7
      refine mw_iload hG a230_120 rfl ?_
      refine mw_aload hG a230_121 rfl ?_
      refine mo_vp0 hG hV a230_122 (mo_width hen hV b0 hK) rfl (by omega) fun y122 hy122 => ?_
      rw [hy122]
      refine mw_icmp_ge hG a230_125 (by omega) (by omega) (fun z125 => ?_) (fun z125 => ?_)
      · refine mw_aload hG a230_204 rfl ?_
        refine mo_g11 hG hV a230_205 b11 ?_
        refine mw_iret hG a230_208 (Or.inl rfl) (hF _ _ _ ⟨rfl, _, rfl, _, _, hV, hK, hQ, hB, _, b11, by omega, by omega⟩)
      · refine mw_aload hG a230_128 rfl ?_
        refine mw_iload hG a230_129 rfl ?_
        refine mw_iload hG a230_130 rfl ?_
        refine mw_iload hG a230_131 rfl ?_
        refine mo_vp3 hG hV a230_132 (mo_nextAt hen hV b0 hK (by omega) (by omega)) rfl (by omega) fun y132 hy132 => ?_
        refine mw_istore hG a230_135 rfl (Nat.le_of_ble_eq_true rfl) rfl ?_
        refine mw_iload hG a230_137 rfl ?_
        refine mw_push hG a230_139 mw_cm1 ?_
        refine mw_icmp_ne hG a230_140 (by omega) (by omega) (fun z140 => ?_) (fun z140 => ?_)
        · have hl := hK.let (g := y132) (by omega)
          have e97 : ∀ x : Int, R2 97 x = R2 97 x := fun _ => rfl
          refine mw_aload hG a230_149 rfl ?_
          refine mo_geta hG hV a230_150 rfl ?_
          refine mw_aload hG a230_153 rfl ?_
          refine mo_g11 hG hV a230_154 b11 ?_
          refine mw_iload hG a230_157 rfl ?_
          refine mo_ist hG hV a230_159 rfl (by omega) fun h R159 hV hR159 => ?_
          have hK := hK.p116 hR159 (by omega)
          have hQ := hQ.up hR159 (by decide)
          refine mw_aload hG a230_160 rfl ?_
          refine mo_geta hG hV a230_161 rfl ?_
          refine mw_aload hG a230_164 rfl ?_
          refine mo_g11 hG hV a230_165 b11 ?_
          refine mw_iload hG a230_168 rfl ?_
          refine mo_ist hG hV a230_169 rfl (by omega) fun h R169 hV hR169 => ?_
          have hK := hK.p117 hR169 (by omega)
          have hQ := hQ.up hR169 (by decide)
          refine mw_aload hG a230_170 rfl ?_
          refine mw_dup hG a230_171 rfl ?_
          refine mo_g11 hG hV a230_172 b11 ?_
          refine mw_push hG a230_175 mw_c1 ?_
          refine mw_add hG a230_176 ?_
          refine mo_p11 hG hV a230_177 fun h B177 hV nb177 vb177 => ?_
          have hB := hB.up nb177 (by decide)
          have b0 := (nb177 0 (by decide)).trans b0
          have b11 : B177 11 = _ := vb177
          refine mw_iload hG a230_180 rfl ?_
          refine mw_aload hG a230_181 rfl ?_
          refine mo_geta hG hV a230_182 rfl ?_
          refine mw_push hG a230_185 mw_c8 ?_
          refine mw_aload hG a230_187 rfl ?_
          refine mo_g0 hG hV a230_188 b0 ?_
          refine mw_mul hG a230_191 ?_
          refine mw_iload hG a230_192 rfl ?_
          refine mw_add hG a230_194 ?_
          have hm1 : R169 97 (8 * bk + y132) = R2 97 (8 * bk + y132) := by rw [hR169, mu_k (by decide), hR159, mu_k (by decide)]
          refine mo_ald hG hV a230_195 rfl (by omega) ?_
          refine mw_add hG a230_196 ?_
          refine mw_istore hG a230_197 rfl (Nat.le_of_ble_eq_true rfl) rfl ?_
          refine mw_iload hG a230_198 rfl ?_
          refine mw_istore hG a230_200 rfl (Nat.le_of_ble_eq_true rfl) rfl ?_
          refine mw_goto hG a230_201 ?_
          exact ih _ _ _ _ _ _ _ hV hK hQ hB b0 b11 (by omega) (by omega) (by omega) (by omega) (by omega) (by omega) (by omega)
        · refine mw_iinc hG a230_143 mw_c1 rfl rfl rfl ?_
          refine mw_goto hG a230_146 ?_
          exact ih _ _ _ _ _ _ _ hV hK hQ hB b0 b11 (by omega) (by omega) (by omega) (by omega) (by omega) (by omega) (by omega)
  have t94 : ∀ (v2 v3 : ev_V) (h : ev_H) (R2 : Nat → Int → Int), e2_isL v2.1 = false → mo_V h0 h (mw_o B fk a fp en tok num nm cs wi pi ui) R2 → mo_K R2 bk W M → mo_fr [114, 115, 116, 117] R R2 → G 94 [(2, 83, 0), mw_i s, v2, v3, (9, 0, 0)] [] E h := by
    intro v2 v3 h R2 hv2 hV hK hQ
    have hB := mo_bf.rf [11] B
    refine mw_aload hG a230_94 rfl ?_
    refine mw_push hG a230_95 mw_c0 ?_
    refine mo_p11 hG hV a230_96 fun h B96 hV nb96 vb96 => ?_
    have hB := hB.up nb96 (by decide)
    have b0 := (nb96 0 (by decide)).trans b0
    have b11 : B96 11 = _ := vb96
    refine mw_aload hG a230_99 rfl ?_
    refine mo_geta hG hV a230_100 rfl ?_
    refine mw_push hG a230_103 mw_c0 ?_
    refine mw_push hG a230_104 mw_c8 ?_
    refine mw_sp2 hG a230_106 (mo_place hen) rfl (by omega) fun y106 hy106 => ?_
    rw [hy106]
    refine mo_ald hG hV a230_109 rfl (by omega) ?_
    have u110 := hK.g115 (i := 9 * 0 + 8) (by omega)
    refine mw_ifc_ne hG a230_110 (by omega) (fun z110 => ?_) (fun z110 => ?_)
    · refine mw_push hG a230_115 mw_c0 ?_
      refine mw_istore hG a230_116 rfl (Nat.le_of_ble_eq_true rfl) rfl ?_
      refine mw_push hG a230_117 mw_c8 ?_
      refine mw_istore hG a230_119 rfl (Nat.le_of_ble_eq_true rfl) rfl ?_
      exact l120 W.toNat _ _ _ _ _ _ _ hV hK hQ hB b0 b11 (by omega) (by omega) (by omega) (by omega) (by omega) (by omega) (by omega)
    · refine mw_push hG a230_113 mw_cm1 ?_
      refine mw_iret hG a230_114 (Or.inl rfl) (hF _ _ _ ⟨rfl, _, rfl, _, _, hV, hK, hQ, hB, _, b11, by omega, by omega⟩)
  have l49 : ∀ (m : Nat) (c : Int) (v3 : ev_V) (h : ev_H) (R2 : Nat → Int → Int), c = (m : Int) - 1 → c < W → mo_V h0 h (mw_o B fk a fp en tok num nm cs wi pi ui) R2 → mo_K R2 bk W M → mo_fr [114, 115, 116, 117] R R2 → G 49 [(2, 83, 0), mw_i s, mw_i c, v3, (9, 0, 0)] [] E h := by
    intro m
    induction m with
    | zero =>
      intro c v3 h R2 h1 h2 hV hK hQ
      refine mw_iload hG a230_49 rfl ?_
      refine mw_ifc_lt hG a230_50 (by omega) (fun z50 => ?_) (fun z50 => by exfalso; omega)
      exact t94 _ _ _ _ rfl hV hK hQ
    | succ m ih =>
      intro c v3 h R2 h1 h2 hV hK hQ
      have l55 : ∀ (n : Nat) (d : Int) (h : ev_H) (R2 : Nat → Int → Int), 0 ≤ d → d + n = 9 → mo_V h0 h (mw_o B fk a fp en tok num nm cs wi pi ui) R2 → mo_K R2 bk W M → mo_fr [114, 115, 116, 117] R R2 → G 55 [(2, 83, 0), mw_i s, mw_i c, mw_i d, (9, 0, 0)] [] E h := by
        intro n
        induction n with
        | zero =>
          intro d h R2 g1 g2 hV hK hQ
          refine mw_iload hG a230_55 rfl ?_
          refine mw_push hG a230_56 mw_c8 ?_
          refine mw_icmp_gt hG a230_58 (by omega) (by omega) (fun z58 => ?_) (fun z58 => by exfalso; omega)
          refine mw_iinc hG a230_88 mw_cm1 rfl rfl rfl ?_
          refine mw_goto hG a230_91 ?_
          exact ih _ _ _ _ (by omega) (by omega) hV hK hQ
        | succ n ih2 =>
          intro d h R2 g1 g2 hV hK hQ
          refine mw_iload hG a230_55 rfl ?_
          refine mw_push hG a230_56 mw_c8 ?_
          refine mw_icmp_gt hG a230_58 (by omega) (by omega) (fun z58 => by exfalso; omega) (fun z58 => ?_)
          refine mw_iload hG a230_61 rfl ?_
          refine mw_push hG a230_62 mw_c8 ?_
          refine mw_icmp_eq hG a230_64 (by omega) (by omega) (fun z64 => ?_) (fun z64 => ?_)
          · refine mw_aload hG a230_75 rfl ?_
            refine mw_iload hG a230_76 rfl ?_
            refine mw_iload hG a230_77 rfl ?_
            refine mw_iload hG a230_78 rfl ?_
            refine mo_vv3 hG hV a230_79 (mo_layFrom hen hV b0 hK (by omega) (by omega)) rfl (by omega) fun h hq79 => ?_
            obtain ⟨R79, hV, hK, hf79⟩ := hq79
            have hQ := hQ.tr hf79 (fun _ z => z)
            refine mw_iinc hG a230_82 mw_c1 rfl rfl rfl ?_
            refine mw_goto hG a230_85 ?_
            exact ih2 _ _ _ (by omega) (by omega) hV hK hQ
          · refine mw_iload hG a230_67 rfl ?_
            refine mw_aload hG a230_68 rfl ?_
            refine mo_vp0 hG hV a230_69 (mo_many hen hV b0 hK) rfl (by omega) fun y69 hy69 => ?_
            rw [hy69]
            refine mw_icmp_ge hG a230_72 (by omega) (by omega) (fun z72 => ?_) (fun z72 => ?_)
            · refine mw_iinc hG a230_82 mw_c1 rfl rfl rfl ?_
              refine mw_goto hG a230_85 ?_
              exact ih2 _ _ _ (by omega) (by omega) hV hK hQ
            · refine mw_aload hG a230_75 rfl ?_
              refine mw_iload hG a230_76 rfl ?_
              refine mw_iload hG a230_77 rfl ?_
              refine mw_iload hG a230_78 rfl ?_
              refine mo_vv3 hG hV a230_79 (mo_layFrom hen hV b0 hK (by omega) (by omega)) rfl (by omega) fun h hq79 => ?_
              obtain ⟨R79, hV, hK, hf79⟩ := hq79
              have hQ := hQ.tr hf79 (fun _ z => z)
              refine mw_iinc hG a230_82 mw_c1 rfl rfl rfl ?_
              refine mw_goto hG a230_85 ?_
              exact ih2 _ _ _ (by omega) (by omega) hV hK hQ
      refine mw_iload hG a230_49 rfl ?_
      refine mw_ifc_lt hG a230_50 (by omega) (fun z50 => by exfalso; omega) (fun z50 => ?_)
      refine mw_push hG a230_53 mw_c0 ?_
      refine mw_istore hG a230_54 rfl (Nat.le_of_ble_eq_true rfl) rfl ?_
      exact l55 9 _ _ _ (by omega) (by omega) hV hK hQ
  have l2 : ∀ (n : Nat) (i : Int) (h : ev_H) (R2 : Nat → Int → Int), 0 ≤ i → i + n = 9 → mo_V h0 h (mw_o B fk a fp en tok num nm cs wi pi ui) R2 → mo_K R2 bk W M → mo_fr [114, 115, 116, 117] R R2 → G 2 [(2, 83, 0), mw_i s, mw_i i, (9, 0, 0), (9, 0, 0)] [] E h := by
    intro n
    induction n with
    | zero =>
      intro i h R2 g1 g2 hV hK hQ
      refine mw_iload hG a230_2 rfl ?_
      refine mw_push hG a230_3 mw_c8 ?_
      refine mw_icmp_gt hG a230_5 (by omega) (by omega) (fun z5 => ?_) (fun z5 => by exfalso; omega)
      refine mw_aload hG a230_42 rfl ?_
      refine mo_vp0 hG hV a230_43 (mo_width hen hV b0 hK) rfl (by omega) fun y43 hy43 => ?_
      rw [hy43]
      refine mw_push hG a230_46 mw_c1 ?_
      refine mw_sub hG a230_47 ?_
      refine mw_istore hG a230_48 rfl (Nat.le_of_ble_eq_true rfl) rfl ?_
      exact l49 W.toNat _ _ _ _ (by omega) (by omega) hV hK hQ
    | succ n ih =>
      intro i h R2 g1 g2 hV hK hQ
      refine mw_iload hG a230_2 rfl ?_
      refine mw_push hG a230_3 mw_c8 ?_
      refine mw_icmp_gt hG a230_5 (by omega) (by omega) (fun z5 => by exfalso; omega) (fun z5 => ?_)
      refine mw_aload hG a230_8 rfl ?_
      refine mo_geta hG hV a230_9 rfl ?_
      refine mw_aload hG a230_12 rfl ?_
      refine mo_vp0 hG hV a230_13 (mo_width hen hV b0 hK) rfl (by omega) fun y13 hy13 => ?_
      rw [hy13]
      refine mw_iload hG a230_16 rfl ?_
      refine mw_sp2 hG a230_17 (mo_place hen) rfl (by omega) fun y17 hy17 => ?_
      rw [hy17]
      refine mw_push hG a230_20 mw_c0 ?_
      refine mo_ist hG hV a230_21 rfl (by omega) fun h R21 hV hR21 => ?_
      have hK := hK.p114 hR21 (by omega)
      have hQ := hQ.up hR21 (by decide)
      refine mw_aload hG a230_22 rfl ?_
      refine mo_geta hG hV a230_23 rfl ?_
      refine mw_aload hG a230_26 rfl ?_
      refine mo_vp0 hG hV a230_27 (mo_width hen hV b0 hK) rfl (by omega) fun y27 hy27 => ?_
      rw [hy27]
      refine mw_iload hG a230_30 rfl ?_
      refine mw_sp2 hG a230_31 (mo_place hen) rfl (by omega) fun y31 hy31 => ?_
      rw [hy31]
      refine mw_push hG a230_34 mw_c1 ?_
      refine mo_ist hG hV a230_35 rfl (by omega) fun h R35 hV hR35 => ?_
      have hK := hK.p115 hR35 (by omega)
      have hQ := hQ.up hR35 (by decide)
      refine mw_iinc hG a230_36 mw_c1 rfl rfl rfl ?_
      refine mw_goto hG a230_39 ?_
      exact ih _ _ _ (by omega) (by omega) hV hK hQ
  refine mw_push hG a230_0 mw_c0 ?_
  refine mw_istore hG a230_1 rfl (Nat.le_of_ble_eq_true rfl) rfl ?_
  exact l2 9 _ _ _ (by omega) (by omega) hV hK (mo_fr.rf _ _)
set_option maxRecDepth 20000 in
theorem mo_isHarm (hen : en_ok) {lc : Launch} {h0 h : ev_H} {E : e2_E} {B : Nat → Int} {fk a fp en tok num : Int} {nm : Nat} {cs wi pi ui : Int} {R : Nat → Int → Int} {bk W M : Int} (hV : mo_V h0 h (mw_o B fk a fp en tok num nm cs wi pi ui) R) (b0 : B 0 = bk) (hK : mo_K R bk W M) {tm : Int} (b11 : B 11 = tm) (ht : 0 ≤ tm ∧ tm ≤ 20) : mw_Cp lc 1 235 [(2, 83, 0)] E h (fun z => z = 0 ∨ z = 1) := by
  refine mw_con (D := 0) (C := evd_235) (X := e2x_235) [] hen ei_235 ex2_235 (Nat.le_of_ble_eq_true rfl) fun d0 F G hd hF hG => ?_
  show G 0 [(2, 83, 0), (9, 0, 0)] [] E h
  have kk := hK.2.2.1
  have l2 : ∀ (n : Nat) (i : Int), 0 ≤ i → i + n = tm → G 2 [(2, 83, 0), mw_i i] [] E h := by
    intro n
    induction n with
    | zero =>
      intro i h1 h2
      refine mw_iload hG a235_2 rfl ?_
      refine mw_aload hG a235_3 rfl ?_
      refine mo_g11 hG hV a235_4 b11 ?_
      refine mw_icmp_ge hG a235_7 (by omega) (by omega) (fun z7 => ?_) (fun z7 => by exfalso; omega)
      refine mw_push hG a235_40 mw_c0 ?_
      refine mw_iret hG a235_41 (Or.inr ⟨rfl, by omega⟩) (hF _ _ _ ⟨rfl, rfl, _, rfl, ?_⟩)
      omega
    | succ n ih =>
      intro i h1 h2
      have g116 := hK.g116 (i := i) (by omega)
      have g99 := hK.g99 (i := 8 * bk + R 116 i) (by omega)
      refine mw_iload hG a235_2 rfl ?_
      refine mw_aload hG a235_3 rfl ?_
      refine mo_g11 hG hV a235_4 b11 ?_
      refine mw_icmp_ge hG a235_7 (by omega) (by omega) (fun z7 => by exfalso; omega) (fun z7 => ?_)
      refine mw_aload hG a235_10 rfl ?_
      refine mo_geta hG hV a235_11 rfl ?_
      refine mw_push hG a235_14 mw_c8 ?_
      refine mw_aload hG a235_16 rfl ?_
      refine mo_g0 hG hV a235_17 b0 ?_
      refine mw_mul hG a235_20 ?_
      refine mw_aload hG a235_21 rfl ?_
      refine mo_geta hG hV a235_22 rfl ?_
      refine mw_iload hG a235_25 rfl ?_
      refine mo_ald hG hV a235_26 rfl (by omega) ?_
      refine mw_add hG a235_27 ?_
      refine mo_ald hG hV a235_28 rfl (by omega) ?_
      refine mw_ifc_ge hG a235_29 (by omega) (fun z29 => ?_) (fun z29 => ?_)
      · refine mw_iinc hG a235_34 mw_c1 rfl rfl rfl ?_
        refine mw_goto hG a235_37 ?_
        exact ih _ (by omega) (by omega)
      · refine mw_push hG a235_32 mw_c1 ?_
        refine mw_iret hG a235_33 (Or.inr ⟨rfl, by omega⟩) (hF _ _ _ ⟨rfl, rfl, _, rfl, ?_⟩)
        omega
  refine mw_push hG a235_0 mw_c0 ?_
  refine mw_istore hG a235_1 rfl (Nat.le_of_ble_eq_true rfl) rfl ?_
  exact l2 tm.toNat _ (by omega) (by omega)
set_option maxHeartbeats 4000000 in
set_option maxRecDepth 20000 in
theorem mo_isHarmBy (hen : en_ok) {lc : Launch} {h0 h : ev_H} {E : e2_E} {B : Nat → Int} {fk a fp en tok num : Int} {nm : Nat} {cs wi pi ui : Int} {R : Nat → Int → Int} {bk W M : Int} (hV : mo_V h0 h (mw_o B fk a fp en tok num nm cs wi pi ui) R) (b0 : B 0 = bk) (hK : mo_K R bk W M) {p n : Int} (hn : 0 ≤ n ∧ n ≤ 8) : mw_Ci lc 5 264 [(2, 83, 0), mw_i p, mw_i n] E h (fun z h' => (z = 0 ∨ z = 1) ∧ ∃ R2 B2, mo_V h0 h' (mw_o B2 fk a fp en tok num nm cs wi pi ui) R2 ∧ mo_K R2 bk W M ∧ mo_fr [114, 115, 116, 117] R R2 ∧ mo_bf [11] B B2 ∧ ∃ tm, B2 11 = tm ∧ 0 ≤ tm ∧ tm ≤ 20) := by
  refine mw_con (D := 4) (C := evd_264) (X := e2x_264) [] hen ei_264 ex2_264 (Nat.le_of_ble_eq_true rfl) fun d0 F G hd hF hG => ?_
  show G 0 [(2, 83, 0), mw_i p, mw_i n, (9, 0, 0), (9, 0, 0)] [] E h
  have kk := hK.2.2.1
  have l8 : ∀ (m : Nat) (i s : Int), 0 ≤ i → i + m = n → G 8 [(2, 83, 0), mw_i p, mw_i n, mw_i s, mw_i i] [] E h := by
    intro m
    induction m with
    | zero =>
      intro i s h1 h2
      refine mw_iload hG a264_8 rfl ?_
      refine mw_iload hG a264_10 rfl ?_
      refine mw_icmp_ge hG a264_11 (by omega) (by omega) (fun z11 => ?_) (fun z11 => by exfalso; omega)
      have hQ := mo_fr.rf [114, 115, 116, 117] R
      have hB := mo_bf.rf [11] B
      refine mw_aload hG a264_41 rfl ?_
      refine mw_iload hG a264_42 rfl ?_
      refine mo_vi1 hG hV a264_43 (mo_read hen hV b0 hK) rfl (by omega) fun v43 h hq43 => ?_
      obtain ⟨R43, B43, hV, hK, hf43, hbf43, tm43, b11, ht43, hu43⟩ := hq43
      have b0 : B43 0 = bk := (hbf43 0 (by decide)).trans b0
      have hQ := hQ.tr hf43 (by decide)
      have hB := hB.tr hbf43 (by decide)
      refine mw_pop hG a264_46 ?_
      refine mw_aload hG a264_47 rfl ?_
      refine mo_vp0 hG hV a264_48 (mo_isHarm hen hV b0 hK b11 (by omega)) rfl (by omega) fun y48 hy48 => ?_
      refine mw_iret hG a264_51 (Or.inr ⟨rfl, by omega⟩) (hF _ _ _ ⟨rfl, _, rfl, ?_⟩)
      exact ⟨by omega, _, _, hV, hK, hQ, hB, _, b11, by omega, by omega⟩
    | succ m ih =>
      intro i s h1 h2
      refine mw_iload hG a264_8 rfl ?_
      refine mw_iload hG a264_10 rfl ?_
      refine mw_icmp_ge hG a264_11 (by omega) (by omega) (fun z11 => by exfalso; omega) (fun z11 => ?_)
      refine mw_iload hG a264_14 rfl ?_
      refine mw_iload hG a264_15 rfl ?_
      refine mw_sp2 hG a264_17 (mo_has hen (by omega)) rfl (by omega) fun y17 hy17 => ?_
      have hz17 := hy17.1
      refine mw_ifc_eq hG a264_20 (by omega) (fun z20 => ?_) (fun z20 => ?_)
      · refine mw_iinc hG a264_35 mw_c1 rfl rfl rfl ?_
        refine mw_goto hG a264_38 ?_
        exact ih _ _ (by omega) (by omega)
      · refine mw_iload hG a264_23 rfl ?_
        refine mw_push hG a264_24 mw_c1 ?_
        refine mw_aload hG a264_25 rfl ?_
        refine mo_geta hG hV a264_26 rfl ?_
        refine mw_iload hG a264_29 rfl ?_
        refine mo_ald hG hV a264_31 rfl (by omega) ?_
        refine mw_any hG a264_32 ?_
        refine mw_any hG a264_33 ?_
        refine mw_istore hG a264_34 rfl (Nat.le_of_ble_eq_true rfl) rfl ?_
        refine mw_iinc hG a264_35 mw_c1 rfl rfl rfl ?_
        refine mw_goto hG a264_38 ?_
        exact ih _ _ (by omega) (by omega)
  refine mw_aload hG a264_0 rfl ?_
  refine mo_vp0 hG hV a264_1 (mo_looks hen hV b0 hK) rfl (by omega) fun y1 _ => ?_
  refine mw_istore hG a264_4 rfl (Nat.le_of_ble_eq_true rfl) rfl ?_
  refine mw_push hG a264_5 mw_c0 ?_
  refine mw_istore hG a264_6 rfl (Nat.le_of_ble_eq_true rfl) rfl ?_
  exact l8 n.toNat _ _ (by omega) (by omega)
