/-! THE REFERENCE'S MEADOW: what holds of the rows while a bank is laid; clearBank, shapes, things, signs, nevers, barns -/
theorem mw_ok.fk {sz fk a en tok num : Int} {nm : Nat} (h : mw_ok sz fk a en tok num nm) {fk2 : Int} (h1 : 0 ≤ fk2) (h2 : fk2 ≤ 5) : mw_ok sz fk2 a en tok num nm := by
  obtain ⟨s1, s2, s3, s4, s5, s6, s7, s8, s9, s10, s11, s12, s13⟩ := h
  exact ⟨s1, s2, s3, s4, h1, h2, s7, s8, s9, s10, s11, s12, s13⟩
def mw_J (R : Nat → Int → Int) : Prop := (∀ i, 0 ≤ i → i < 1620 → -128 ≤ R 84 i ∧ R 84 i ≤ 127) ∧ (∀ i, 0 ≤ i → i < 1600 → -128 ≤ R 85 i ∧ R 85 i ≤ 127) ∧ (∀ i, 0 ≤ i → i < 2 → 4 - 4 * i ≤ R 86 i ∧ R 86 i ≤ 20) ∧ (∀ i, 0 ≤ i → i < 2 → 0 ≤ R 87 i ∧ R 87 i ≤ 4) ∧ (∀ i, 0 ≤ i → i < 2 → 0 ≤ R 88 i ∧ R 88 i ≤ 8) ∧ (∀ i, 0 ≤ i → i < 2 → -2147483648 ≤ R 89 i ∧ R 89 i ≤ 2147483647) ∧ (∀ i, 0 ≤ i → i < 2 → -2147483648 ≤ R 90 i ∧ R 90 i ≤ 2147483647) ∧ (∀ i, 0 ≤ i → i < 2 → 0 ≤ R 92 i ∧ R 92 i ≤ 60) ∧ (∀ i, 0 ≤ i → i < 2 → 0 ≤ R 93 i ∧ R 93 i ≤ 999) ∧ (∀ i, 0 ≤ i → i < 2 → -2147483648 ≤ R 94 i ∧ R 94 i ≤ 2147483647) ∧ (∀ i, 0 ≤ i → i < 16 → 0 ≤ R 97 i ∧ R 97 i ≤ 6) ∧ (∀ i, 0 ≤ i → i < 16 → 0 ≤ R 98 i ∧ R 98 i ≤ 3) ∧ (∀ i, 0 ≤ i → i < 2 → 0 ≤ R 103 i ∧ R 103 i ≤ 1) ∧ (∀ i, 0 ≤ i → i < 4 → 0 ≤ R 104 i ∧ R 104 i ≤ 1) ∧ (∀ i, 0 ≤ i → i < 3 → 0 ≤ R 132 i ∧ R 132 i ≤ 1) ∧ 0 ≤ R 112 25 ∧ R 112 25 ≤ 999
theorem mu_b {R : Nat → Int → Int} {k : Nat} {i j z lo hi : Int} (h : lo ≤ R k j ∧ R k j ≤ hi) (hz : lo ≤ z ∧ z ≤ hi) : lo ≤ mu R k i z k j ∧ mu R k i z k j ≤ hi := by
  by_cases hj : j = i
  · subst hj
    rw [mu_e]
    exact hz
  · rw [mu_n hj]
    exact h
theorem mu_mu {R : Nat → Int → Int} {k : Nat} {i x y : Int} : mu (mu R k i x) k i y = mu R k i y := by
  funext k2 i2
  unfold mu
  cases Nat.beq k2 k
  · rfl
  · by_cases h : i2 = i
    · simp [h]
    · simp [h]
theorem mu_c {R : Nat → Int → Int} {k k2 : Nat} {i i2 x y : Int} (h : k ≠ k2) : mu (mu R k i x) k2 i2 y = mu (mu R k2 i2 y) k i x := by
  funext k3 i3
  unfold mu
  by_cases h1 : k3 = k
  · subst h1
    rw [Nat.beq_refl, show Nat.beq k3 k2 = false from Bool.eq_false_iff.mpr fun z => h (Nat.eq_of_beq_eq_true z)]
    rfl
  · rw [show Nat.beq k3 k = false from Bool.eq_false_iff.mpr fun z => h1 (Nat.eq_of_beq_eq_true z)]
    rfl
theorem mw_J.p85 {R : Nat → Int → Int} (hJ : mw_J R) {i z : Int} (hz : -128 ≤ z ∧ z ≤ 127) : mw_J (mu R 85 i z) := by
  obtain ⟨j84, j85, j86, j87, j88, j89, j90, j92, j93, j94, j97, j98, j103, j104, j132, jx⟩ := hJ
  exact ⟨j84, fun x h1 h2 => mu_b (j85 x h1 h2) hz, j86, j87, j88, j89, j90, j92, j93, j94, j97, j98, j103, j104, j132, jx⟩
theorem mw_J.p86 {R : Nat → Int → Int} (hJ : mw_J R) {i z : Int} (hz : 4 ≤ z ∧ z ≤ 20) : mw_J (mu R 86 i z) := by
  obtain ⟨j84, j85, j86, j87, j88, j89, j90, j92, j93, j94, j97, j98, j103, j104, j132, jx⟩ := hJ
  exact ⟨j84, j85, fun x h1 h2 => mu_b (j86 x h1 h2) (by omega), j87, j88, j89, j90, j92, j93, j94, j97, j98, j103, j104, j132, jx⟩
theorem mw_J.p87 {R : Nat → Int → Int} (hJ : mw_J R) {i z : Int} (hz : 0 ≤ z ∧ z ≤ 4) : mw_J (mu R 87 i z) := by
  obtain ⟨j84, j85, j86, j87, j88, j89, j90, j92, j93, j94, j97, j98, j103, j104, j132, jx⟩ := hJ
  exact ⟨j84, j85, j86, fun x h1 h2 => mu_b (j87 x h1 h2) hz, j88, j89, j90, j92, j93, j94, j97, j98, j103, j104, j132, jx⟩
theorem mw_J.p88 {R : Nat → Int → Int} (hJ : mw_J R) {i z : Int} (hz : 0 ≤ z ∧ z ≤ 8) : mw_J (mu R 88 i z) := by
  obtain ⟨j84, j85, j86, j87, j88, j89, j90, j92, j93, j94, j97, j98, j103, j104, j132, jx⟩ := hJ
  exact ⟨j84, j85, j86, j87, fun x h1 h2 => mu_b (j88 x h1 h2) hz, j89, j90, j92, j93, j94, j97, j98, j103, j104, j132, jx⟩
theorem mw_J.p89 {R : Nat → Int → Int} (hJ : mw_J R) {i z : Int} (hz : -2147483648 ≤ z ∧ z ≤ 2147483647) : mw_J (mu R 89 i z) := by
  obtain ⟨j84, j85, j86, j87, j88, j89, j90, j92, j93, j94, j97, j98, j103, j104, j132, jx⟩ := hJ
  exact ⟨j84, j85, j86, j87, j88, fun x h1 h2 => mu_b (j89 x h1 h2) hz, j90, j92, j93, j94, j97, j98, j103, j104, j132, jx⟩
theorem mw_J.p90 {R : Nat → Int → Int} (hJ : mw_J R) {i z : Int} (hz : -2147483648 ≤ z ∧ z ≤ 2147483647) : mw_J (mu R 90 i z) := by
  obtain ⟨j84, j85, j86, j87, j88, j89, j90, j92, j93, j94, j97, j98, j103, j104, j132, jx⟩ := hJ
  exact ⟨j84, j85, j86, j87, j88, j89, fun x h1 h2 => mu_b (j90 x h1 h2) hz, j92, j93, j94, j97, j98, j103, j104, j132, jx⟩
theorem mw_J.p92 {R : Nat → Int → Int} (hJ : mw_J R) {i z : Int} (hz : 0 ≤ z ∧ z ≤ 60) : mw_J (mu R 92 i z) := by
  obtain ⟨j84, j85, j86, j87, j88, j89, j90, j92, j93, j94, j97, j98, j103, j104, j132, jx⟩ := hJ
  exact ⟨j84, j85, j86, j87, j88, j89, j90, fun x h1 h2 => mu_b (j92 x h1 h2) hz, j93, j94, j97, j98, j103, j104, j132, jx⟩
theorem mw_J.p93 {R : Nat → Int → Int} (hJ : mw_J R) {i z : Int} (hz : 0 ≤ z ∧ z ≤ 999) : mw_J (mu R 93 i z) := by
  obtain ⟨j84, j85, j86, j87, j88, j89, j90, j92, j93, j94, j97, j98, j103, j104, j132, jx⟩ := hJ
  exact ⟨j84, j85, j86, j87, j88, j89, j90, j92, fun x h1 h2 => mu_b (j93 x h1 h2) hz, j94, j97, j98, j103, j104, j132, jx⟩
theorem mw_J.p94 {R : Nat → Int → Int} (hJ : mw_J R) {i z : Int} (hz : -2147483648 ≤ z ∧ z ≤ 2147483647) : mw_J (mu R 94 i z) := by
  obtain ⟨j84, j85, j86, j87, j88, j89, j90, j92, j93, j94, j97, j98, j103, j104, j132, jx⟩ := hJ
  exact ⟨j84, j85, j86, j87, j88, j89, j90, j92, j93, fun x h1 h2 => mu_b (j94 x h1 h2) hz, j97, j98, j103, j104, j132, jx⟩
theorem mw_J.p97 {R : Nat → Int → Int} (hJ : mw_J R) {i z : Int} (hz : 0 ≤ z ∧ z ≤ 6) : mw_J (mu R 97 i z) := by
  obtain ⟨j84, j85, j86, j87, j88, j89, j90, j92, j93, j94, j97, j98, j103, j104, j132, jx⟩ := hJ
  exact ⟨j84, j85, j86, j87, j88, j89, j90, j92, j93, j94, fun x h1 h2 => mu_b (j97 x h1 h2) hz, j98, j103, j104, j132, jx⟩
theorem mw_J.p98 {R : Nat → Int → Int} (hJ : mw_J R) {i z : Int} (hz : 0 ≤ z ∧ z ≤ 3) : mw_J (mu R 98 i z) := by
  obtain ⟨j84, j85, j86, j87, j88, j89, j90, j92, j93, j94, j97, j98, j103, j104, j132, jx⟩ := hJ
  exact ⟨j84, j85, j86, j87, j88, j89, j90, j92, j93, j94, j97, fun x h1 h2 => mu_b (j98 x h1 h2) hz, j103, j104, j132, jx⟩
theorem mw_J.p103 {R : Nat → Int → Int} (hJ : mw_J R) {i z : Int} (hz : 0 ≤ z ∧ z ≤ 1) : mw_J (mu R 103 i z) := by
  obtain ⟨j84, j85, j86, j87, j88, j89, j90, j92, j93, j94, j97, j98, j103, j104, j132, jx⟩ := hJ
  exact ⟨j84, j85, j86, j87, j88, j89, j90, j92, j93, j94, j97, j98, fun x h1 h2 => mu_b (j103 x h1 h2) hz, j104, j132, jx⟩
theorem mw_J.p104 {R : Nat → Int → Int} (hJ : mw_J R) {i z : Int} (hz : 0 ≤ z ∧ z ≤ 1) : mw_J (mu R 104 i z) := by
  obtain ⟨j84, j85, j86, j87, j88, j89, j90, j92, j93, j94, j97, j98, j103, j104, j132, jx⟩ := hJ
  exact ⟨j84, j85, j86, j87, j88, j89, j90, j92, j93, j94, j97, j98, j103, fun x h1 h2 => mu_b (j104 x h1 h2) hz, j132, jx⟩
theorem mw_J.p132 {R : Nat → Int → Int} (hJ : mw_J R) {i z : Int} (hz : 0 ≤ z ∧ z ≤ 1) : mw_J (mu R 132 i z) := by
  obtain ⟨j84, j85, j86, j87, j88, j89, j90, j92, j93, j94, j97, j98, j103, j104, j132, jx⟩ := hJ
  exact ⟨j84, j85, j86, j87, j88, j89, j90, j92, j93, j94, j97, j98, j103, j104, fun x h1 h2 => mu_b (j132 x h1 h2) hz, jx⟩
theorem mw_J.p101 {R : Nat → Int → Int} (hJ : mw_J R) {i z : Int} (_ : 0 ≤ z ∧ z ≤ 1120) : mw_J (mu R 101 i z) := hJ
theorem mw_J.p102 {R : Nat → Int → Int} (hJ : mw_J R) {i z : Int} (_ : 0 ≤ z ∧ z ≤ 1120) : mw_J (mu R 102 i z) := hJ
theorem mw_J.p107 {R : Nat → Int → Int} (hJ : mw_J R) {i z : Int} (_ : 0 ≤ z ∧ z ≤ 127) : mw_J (mu R 107 i z) := hJ
theorem mw_J.g84 {R : Nat → Int → Int} (hJ : mw_J R) {i : Int} (h : 0 ≤ i ∧ i < 1620) : -128 ≤ R 84 i ∧ R 84 i ≤ 127 := hJ.1 i h.1 h.2
theorem mw_J.g85 {R : Nat → Int → Int} (hJ : mw_J R) {i : Int} (h : 0 ≤ i ∧ i < 1600) : -128 ≤ R 85 i ∧ R 85 i ≤ 127 := hJ.2.1 i h.1 h.2
theorem mw_J.g86 {R : Nat → Int → Int} (hJ : mw_J R) {i : Int} (h : 0 ≤ i ∧ i < 2) : 4 - 4 * i ≤ R 86 i ∧ R 86 i ≤ 20 := hJ.2.2.1 i h.1 h.2
theorem mw_J.g87 {R : Nat → Int → Int} (hJ : mw_J R) {i : Int} (h : 0 ≤ i ∧ i < 2) : 0 ≤ R 87 i ∧ R 87 i ≤ 4 := hJ.2.2.2.1 i h.1 h.2
theorem mw_J.g88 {R : Nat → Int → Int} (hJ : mw_J R) {i : Int} (h : 0 ≤ i ∧ i < 2) : 0 ≤ R 88 i ∧ R 88 i ≤ 8 := hJ.2.2.2.2.1 i h.1 h.2
theorem mw_J.g89 {R : Nat → Int → Int} (hJ : mw_J R) {i : Int} (h : 0 ≤ i ∧ i < 2) : -2147483648 ≤ R 89 i ∧ R 89 i ≤ 2147483647 := hJ.2.2.2.2.2.1 i h.1 h.2
theorem mw_J.g90 {R : Nat → Int → Int} (hJ : mw_J R) {i : Int} (h : 0 ≤ i ∧ i < 2) : -2147483648 ≤ R 90 i ∧ R 90 i ≤ 2147483647 := hJ.2.2.2.2.2.2.1 i h.1 h.2
theorem mw_J.g92 {R : Nat → Int → Int} (hJ : mw_J R) {i : Int} (h : 0 ≤ i ∧ i < 2) : 0 ≤ R 92 i ∧ R 92 i ≤ 60 := hJ.2.2.2.2.2.2.2.1 i h.1 h.2
theorem mw_J.g93 {R : Nat → Int → Int} (hJ : mw_J R) {i : Int} (h : 0 ≤ i ∧ i < 2) : 0 ≤ R 93 i ∧ R 93 i ≤ 999 := hJ.2.2.2.2.2.2.2.2.1 i h.1 h.2
theorem mw_J.g94 {R : Nat → Int → Int} (hJ : mw_J R) {i : Int} (h : 0 ≤ i ∧ i < 2) : -2147483648 ≤ R 94 i ∧ R 94 i ≤ 2147483647 := hJ.2.2.2.2.2.2.2.2.2.1 i h.1 h.2
theorem mw_J.g97 {R : Nat → Int → Int} (hJ : mw_J R) {i : Int} (h : 0 ≤ i ∧ i < 16) : 0 ≤ R 97 i ∧ R 97 i ≤ 6 := hJ.2.2.2.2.2.2.2.2.2.2.1 i h.1 h.2
theorem mw_J.g98 {R : Nat → Int → Int} (hJ : mw_J R) {i : Int} (h : 0 ≤ i ∧ i < 16) : 0 ≤ R 98 i ∧ R 98 i ≤ 3 := hJ.2.2.2.2.2.2.2.2.2.2.2.1 i h.1 h.2
theorem mw_J.g103 {R : Nat → Int → Int} (hJ : mw_J R) {i : Int} (h : 0 ≤ i ∧ i < 2) : 0 ≤ R 103 i ∧ R 103 i ≤ 1 := hJ.2.2.2.2.2.2.2.2.2.2.2.2.1 i h.1 h.2
theorem mw_J.g104 {R : Nat → Int → Int} (hJ : mw_J R) {i : Int} (h : 0 ≤ i ∧ i < 4) : 0 ≤ R 104 i ∧ R 104 i ≤ 1 := hJ.2.2.2.2.2.2.2.2.2.2.2.2.2.1 i h.1 h.2
theorem mw_J.g132 {R : Nat → Int → Int} (hJ : mw_J R) {i : Int} (h : 0 ≤ i ∧ i < 3) : 0 ≤ R 132 i ∧ R 132 i ≤ 1 := hJ.2.2.2.2.2.2.2.2.2.2.2.2.2.2.1 i h.1 h.2
/-- the other bank stays -/
def mw_fr (R0 R : Nat → Int → Int) (o : Int) : Prop := (R 88 o = R0 88 o ∧ R 86 o = R0 86 o ∧ 4 ≤ R 86 (1 - o)) ∧ (∀ i, 8 * o ≤ i → i < 8 * o + 8 → R 97 i = R0 97 i) ∧ (∀ i, 2 * o ≤ i → i < 2 * o + 2 → R 101 i = R0 101 i ∧ R 102 i = R0 102 i ∧ R 104 i = R0 104 i) ∧ ∀ i, 560 * o ≤ i → i < 560 * o + 560 → R 107 i = R0 107 i
/-- a rule that stands between lo and hi -/
def mw_ru (R : Nat → Int → Int) (j lo hi : Int) : Prop := ∃ fr L : Nat, R 101 j = fr ∧ R 102 j = (fr + L : Nat) ∧ lo ≤ fr ∧ ((fr + L : Nat) : Int) ≤ hi ∧ rf_W (fun i => Int32.ofInt (R 107 (i : Int))) fr L
/-- the bank that is laid -/
def mw_bd (R : Nat → Int → Int) (rb cs fk : Int) : Prop := (560 * rb ≤ cs ∧ cs ≤ 560 * rb + 9 * R 92 rb) ∧ (∀ r, 0 ≤ r → r ≤ 1 → R 104 (2 * rb + r) = 1 → mw_ru R (2 * rb + r) (560 * rb) cs) ∧ (fk = 0 → ∀ g, 0 ≤ g → g < R 88 rb → 1 ≤ R 97 (8 * rb + g))
def mw_Z (R0 R : Nat → Int → Int) (rb cs fk : Int) : Prop := mw_J R ∧ mw_fr R0 R (1 - rb) ∧ mw_bd R rb cs fk
theorem mw_Z.fk {R0 R : Nat → Int → Int} {rb cs fk fk2 : Int} (h : mw_Z R0 R rb cs fk) (hf : fk ≠ 0 → fk2 ≠ 0) : mw_Z R0 R rb cs fk2 := ⟨h.1, h.2.1, h.2.2.1, h.2.2.2.1, fun z => h.2.2.2.2 (Classical.byContradiction fun w => hf w z)⟩
theorem mw_Z.p86 {R0 R : Nat → Int → Int} {rb cs fk : Int} (h : mw_Z R0 R rb cs fk) {i z : Int} (hi : i = rb) (hz : 4 ≤ z ∧ z ≤ 20) : mw_Z R0 (mu R 86 i z) rb cs fk := by
  subst hi
  obtain ⟨hJ, ⟨⟨f0, f1, f2⟩, f3⟩, hb⟩ := h
  refine ⟨hJ.p86 hz, ⟨⟨f0, ?_, ?_⟩, f3⟩, hb⟩
  · rw [mu_n (by omega)]
    exact f1
  · rw [show 1 - (1 - i) = i by omega, mu_e]
    exact hz.1
theorem mw_Z.p87 {R0 R : Nat → Int → Int} {rb cs fk : Int} (h : mw_Z R0 R rb cs fk) {i z : Int} (hz : 0 ≤ z ∧ z ≤ 4) : mw_Z R0 (mu R 87 i z) rb cs fk := ⟨h.1.p87 hz, h.2.1, h.2.2⟩
theorem mw_Z.p89 {R0 R : Nat → Int → Int} {rb cs fk : Int} (h : mw_Z R0 R rb cs fk) {i z : Int} (hz : -2147483648 ≤ z ∧ z ≤ 2147483647) : mw_Z R0 (mu R 89 i z) rb cs fk := ⟨h.1.p89 hz, h.2.1, h.2.2⟩
theorem mw_Z.p90 {R0 R : Nat → Int → Int} {rb cs fk : Int} (h : mw_Z R0 R rb cs fk) {i z : Int} (hz : -2147483648 ≤ z ∧ z ≤ 2147483647) : mw_Z R0 (mu R 90 i z) rb cs fk := ⟨h.1.p90 hz, h.2.1, h.2.2⟩
theorem mw_Z.p93 {R0 R : Nat → Int → Int} {rb cs fk : Int} (h : mw_Z R0 R rb cs fk) {i z : Int} (hz : 0 ≤ z ∧ z ≤ 999) : mw_Z R0 (mu R 93 i z) rb cs fk := ⟨h.1.p93 hz, h.2.1, h.2.2⟩
theorem mw_Z.p94 {R0 R : Nat → Int → Int} {rb cs fk : Int} (h : mw_Z R0 R rb cs fk) {i z : Int} (hz : -2147483648 ≤ z ∧ z ≤ 2147483647) : mw_Z R0 (mu R 94 i z) rb cs fk := ⟨h.1.p94 hz, h.2.1, h.2.2⟩
theorem mw_Z.p98 {R0 R : Nat → Int → Int} {rb cs fk : Int} (h : mw_Z R0 R rb cs fk) {i z : Int} (hz : 0 ≤ z ∧ z ≤ 3) : mw_Z R0 (mu R 98 i z) rb cs fk := ⟨h.1.p98 hz, h.2.1, h.2.2⟩
theorem mw_Z.p103 {R0 R : Nat → Int → Int} {rb cs fk : Int} (h : mw_Z R0 R rb cs fk) {i z : Int} (hz : 0 ≤ z ∧ z ≤ 1) : mw_Z R0 (mu R 103 i z) rb cs fk := ⟨h.1.p103 hz, h.2.1, h.2.2⟩
theorem mw_Z.p91 {R0 R : Nat → Int → Int} {rb cs fk : Int} (h : mw_Z R0 R rb cs fk) {i z : Int} : mw_Z R0 (mu R 91 i z) rb cs fk := h
theorem mw_Z.p95 {R0 R : Nat → Int → Int} {rb cs fk : Int} (h : mw_Z R0 R rb cs fk) {i z : Int} : mw_Z R0 (mu R 95 i z) rb cs fk := h
theorem mw_Z.p96 {R0 R : Nat → Int → Int} {rb cs fk : Int} (h : mw_Z R0 R rb cs fk) {i z : Int} : mw_Z R0 (mu R 96 i z) rb cs fk := h
theorem mw_Z.p99 {R0 R : Nat → Int → Int} {rb cs fk : Int} (h : mw_Z R0 R rb cs fk) {i z : Int} : mw_Z R0 (mu R 99 i z) rb cs fk := h
theorem mw_Z.p100 {R0 R : Nat → Int → Int} {rb cs fk : Int} (h : mw_Z R0 R rb cs fk) {i z : Int} : mw_Z R0 (mu R 100 i z) rb cs fk := h
theorem mw_Z.p97 {R0 R : Nat → Int → Int} {rb cs fk : Int} (h : mw_Z R0 R rb cs fk) (hb : 0 ≤ rb ∧ rb ≤ 1) {i z : Int} (hi : 8 * rb + R 88 rb ≤ i ∧ i < 8 * rb + 8) (h0 : 0 ≤ R 88 rb) (hz : 0 ≤ z ∧ z ≤ 6) : mw_Z R0 (mu R 97 i z) rb cs fk := by
  obtain ⟨hJ, ⟨f1, f2, f3⟩, b1, b2, b3⟩ := h
  refine ⟨hJ.p97 hz, ⟨f1, fun j h1 h2 => ?_, f3⟩, b1, b2, fun hf g h1 h2 => ?_⟩
  · rw [mu_n (by omega)]
    exact f2 j h1 h2
  · have h2 : g < R 88 rb := h2
    rw [mu_n (by omega)]
    exact b3 hf g h1 h2
theorem mw_Z.p88 {R0 R : Nat → Int → Int} {rb cs fk : Int} (h : mw_Z R0 R rb cs fk) (hb : 0 ≤ rb ∧ rb ≤ 1) {z : Int} (hz : z = R 88 rb + 1) (h8 : R 88 rb < 8) (hl : fk = 0 → 1 ≤ R 97 (8 * rb + R 88 rb)) : mw_Z R0 (mu R 88 rb z) rb cs fk := by
  have h0 := h.1.g88 (i := rb) (by omega)
  obtain ⟨hJ, ⟨f1, f2, f3⟩, b1, b2, b3⟩ := h
  refine ⟨hJ.p88 (by omega), ⟨⟨?_, f1.2⟩, f2, f3⟩, b1, b2, fun hf g h1 h2 => ?_⟩
  · rw [mu_n (by omega)]
    exact f1.1
  · rw [mu_e] at h2
    show 1 ≤ R 97 (8 * rb + g)
    by_cases hg : g = R 88 rb
    · rw [hg]
      exact hl hf
    · exact b3 hf g h1 (by omega)
theorem mw_norm {G : sy_P} {pc : Nat} {al r : List ev_V} {E : e2_E} {h : ev_H} {z : Int} (hg : G pc al (mw_i (mw_n z) :: r) E h) : G pc al (mw_i z :: r) E h := by
  rw [mw_in]
  exact hg
theorem mw_rn2 (z : Int) : -2147483648 ≤ mw_n z ∧ mw_n z ≤ 2147483647 := by
  have := mw_rn z
  omega
set_option maxRecDepth 20000 in
theorem mw_isShape (hen : en_ok) {lc : Launch} {h0 h : ev_H} {E : e2_E} {B : Nat → Int} {fk a fp en tok num : Int} {nm : Nat} {cs wi pi ui : Int} {R : Nat → Int → Int} (hV : mw_V h0 h (mw_o B fk a fp en tok num nm cs wi pi ui) R) (hs : mw_ok (B 21) fk a en tok num nm) (ha : a < en) : mw_Cp lc 2 194 [(2, 83, 0)] E h (fun z => (z = 0 ∨ z = 1) ∧ (z = 1 → en - a ≤ 6)) := by
  refine mw_con (D := 1) (C := evd_194) (X := e2x_194) [] hen ei_194 ex2_194 (Nat.le_of_ble_eq_true rfl) fun d0 F G hd hF hG => ?_
  show G 0 [(2, 83, 0), (9, 0, 0)] [] E h
  have hs0 := hs
  obtain ⟨s1, s2, s3, s4, s5, s6, s7, s8, s9, s10, s11, s12, s13⟩ := hs
  have l49 : ∀ (n : Nat) (i : Int), en - a ≤ 6 → a ≤ i → i + n = en → G 49 [(2, 83, 0), mw_i i] [] E h := by
    intro n
    induction n with
    | zero =>
      intro i h0 h1 h2
      refine mw_iload hG a194_49 rfl ?_
      refine mw_aload hG a194_50 rfl ?_
      refine mw_geti hG hV a194_51 rfl ?_
      refine mw_icmp_ge hG a194_54 (by omega) (by omega) (fun z54 => ?_) (fun z54 => by exfalso; omega)
      refine mw_push hG a194_85 mw_c1 ?_
      refine mw_iret hG a194_86 (Or.inr ⟨rfl, by omega⟩) (hF _ _ _ ⟨rfl, rfl, _, rfl, by omega, by omega⟩)
    | succ n ih =>
      intro i h0 h1 h2
      refine mw_iload hG a194_49 rfl ?_
      refine mw_aload hG a194_50 rfl ?_
      refine mw_geti hG hV a194_51 rfl ?_
      refine mw_icmp_ge hG a194_54 (by omega) (by omega) (fun z54 => by exfalso; omega) (fun z54 => ?_)
      refine mw_aload hG a194_57 rfl ?_
      refine mw_iload hG a194_58 rfl ?_
      refine mw_vp1 hG hV a194_59 (mw_sign hen hV (by omega) (by omega)) rfl (by omega) fun y59 hy59 => ?_
      have hr59 : -2147483648 ≤ y59 ∧ y59 < 2147483648 := by rw [hy59]; exact mw_sg_r _ _ _
      refine mw_push hG a194_62 mw_c109 ?_
      refine mw_icmp_eq hG a194_64 (by omega) (by omega) (fun z64 => ?_) (fun z64 => ?_)
      · refine mw_iinc hG a194_79 mw_c1 rfl rfl rfl ?_
        refine mw_goto hG a194_82 ?_
        exact ih _ (by omega) (by omega) (by omega)
      · refine mw_aload hG a194_67 rfl ?_
        refine mw_iload hG a194_68 rfl ?_
        refine mw_vp1 hG hV a194_69 (mw_sign hen hV (by omega) (by omega)) rfl (by omega) fun y69 hy69 => ?_
        have hr69 : -2147483648 ≤ y69 ∧ y69 < 2147483648 := by rw [hy69]; exact mw_sg_r _ _ _
        refine mw_push hG a194_72 mw_c111 ?_
        refine mw_icmp_eq hG a194_74 (by omega) (by omega) (fun z74 => ?_) (fun z74 => ?_)
        · refine mw_iinc hG a194_79 mw_c1 rfl rfl rfl ?_
          refine mw_goto hG a194_82 ?_
          exact ih _ (by omega) (by omega) (by omega)
        · refine mw_push hG a194_77 mw_c0 ?_
          refine mw_iret hG a194_78 (Or.inr ⟨rfl, by omega⟩) (hF _ _ _ ⟨rfl, rfl, _, rfl, by omega, by omega⟩)
  refine mw_aload hG a194_0 rfl ?_
  refine mw_geti hG hV a194_1 rfl ?_
  refine mw_aload hG a194_4 rfl ?_
  refine mw_geti hG hV a194_5 rfl ?_
  refine mw_sub hG a194_8 ?_
  refine mw_push hG a194_9 mw_c6 ?_
  refine mw_icmp_gt hG a194_11 (by omega) (by omega) (fun z11 => ?_) (fun z11 => ?_)
  · refine mw_push hG a194_42 mw_c0 ?_
    refine mw_iret hG a194_43 (Or.inr ⟨rfl, by omega⟩) (hF _ _ _ ⟨rfl, rfl, _, rfl, by omega, by omega⟩)
  · refine mw_aload hG a194_14 rfl ?_
    refine mw_aload hG a194_15 rfl ?_
    refine mw_geti hG hV a194_16 rfl ?_
    refine mw_vp1 hG hV a194_19 (mw_sign hen hV (by omega) (by omega)) rfl (by omega) fun y19 hy19 => ?_
    have hr19 : -2147483648 ≤ y19 ∧ y19 < 2147483648 := by rw [hy19]; exact mw_sg_r _ _ _
    refine mw_push hG a194_22 mw_c109 ?_
    refine mw_icmp_ne hG a194_24 (by omega) (by omega) (fun z24 => ?_) (fun z24 => ?_)
    · refine mw_push hG a194_42 mw_c0 ?_
      refine mw_iret hG a194_43 (Or.inr ⟨rfl, by omega⟩) (hF _ _ _ ⟨rfl, rfl, _, rfl, by omega, by omega⟩)
    · refine mw_aload hG a194_27 rfl ?_
      refine mw_aload hG a194_28 rfl ?_
      refine mw_geti hG hV a194_29 rfl ?_
      refine mw_push hG a194_32 mw_c1 ?_
      refine mw_sub hG a194_33 ?_
      refine mw_vp1 hG hV a194_34 (mw_sign hen hV (by omega) (by omega)) rfl (by omega) fun y34 hy34 => ?_
      have hr34 : -2147483648 ≤ y34 ∧ y34 < 2147483648 := by rw [hy34]; exact mw_sg_r _ _ _
      refine mw_push hG a194_37 mw_c109 ?_
      refine mw_icmp_eq hG a194_39 (by omega) (by omega) (fun z39 => ?_) (fun z39 => ?_)
      · refine mw_aload hG a194_44 rfl ?_
        refine mw_geti hG hV a194_45 rfl ?_
        refine mw_istore hG a194_48 rfl (Nat.le_of_ble_eq_true rfl) rfl ?_
        exact l49 (en - a).toNat _ (by omega) (by omega) (by omega)
      · refine mw_push hG a194_42 mw_c0 ?_
        refine mw_iret hG a194_43 (Or.inr ⟨rfl, by omega⟩) (hF _ _ _ ⟨rfl, rfl, _, rfl, by omega, by omega⟩)
set_option maxHeartbeats 4000000 in
set_option maxRecDepth 20000 in
theorem mw_readShape (hen : en_ok) {lc : Launch} {h0 h : ev_H} {E : e2_E} {B : Nat → Int} {fk a fp en tok num : Int} {nm : Nat} {cs wi pi ui : Int} {R : Nat → Int → Int} (hV : mw_V h0 h (mw_o B fk a fp en tok num nm cs wi pi ui) R) (hs : mw_ok (B 21) fk a en tok num nm) (hb : 0 ≤ B 13 ∧ B 13 ≤ 1) {R0 : Nat → Int → Int} (hZ : mw_Z R0 R (B 13) cs fk) {g : Int} (hg : 8 * B 13 + R 88 (B 13) ≤ g ∧ g < 8 * B 13 + 8) : mw_Cv lc 3 195 [(2, 83, 0), mw_i g] E h (fun h' => ∃ R2 fk2 a2 fp2 en2 tok2 num2 nm2, mw_V h0 h' (mw_o B fk2 a2 fp2 en2 tok2 num2 nm2 cs wi pi ui) R2 ∧ mw_ok (B 21) fk2 a2 en2 tok2 num2 nm2 ∧ a ≤ a2 ∧ en ≤ en2 ∧ (fk ≠ 0 → fk2 ≠ 0) ∧ mw_Z R0 R2 (B 13) cs fk2 ∧ (fk2 = 0 → 1 ≤ R2 97 g) ∧ R2 88 (B 13) = R 88 (B 13) ∧ R2 87 (B 13) = R 87 (B 13)) := by
  refine mw_con (D := 2) (C := evd_195) (X := e2x_195) [] hen ei_195 ex2_195 (Nat.le_of_ble_eq_true rfl) fun d0 F G hd hF hG => ?_
  show G 0 [(2, 83, 0), mw_i g, (9, 0, 0)] [] E h
  have hs0 := hs
  obtain ⟨s1, s2, s3, s4, s5, s6, s7, s8, s9, s10, s11, s12, s13⟩ := hs
  have h88 := hZ.1.g88 (i := B 13) (by omega)
  have l82 : ∀ (n : Nat) (i s : Int) (h : ev_H), mw_V h0 h (mw_o B fk a fp en tok num nm cs wi pi ui) (mu (mu R 97 g (en - a)) 96 g s) → fk = 0 → 1 ≤ en - a → en - a ≤ 6 → a ≤ i → i + n = en → G 82 [(2, 83, 0), mw_i g, mw_i i] [] E h := by
    intro n
    induction n with
    | zero =>
      intro i s h hV h3 h4 h5 h1 h2
      refine mw_iload hG a195_82 rfl ?_
      refine mw_aload hG a195_83 rfl ?_
      refine mw_geti hG hV a195_84 rfl ?_
      refine mw_icmp_ge hG a195_87 (by omega) (by omega) (fun z87 => ?_) (fun z87 => by exfalso; omega)
      refine mw_aload hG a195_123 rfl ?_
      refine mw_vv0 hG hV a195_124 (mw_goOn hen hV (by omega)) rfl (by omega) fun h hq124 => ?_
      obtain ⟨a124, en124, tok124, num124, nm124, hV, ho124, f124⟩ := hq124
      obtain ⟨o124a, o124b, o124c, o124d, o124e, o124f, o124g, o124h, o124i, o124j, o124k, o124l, o124m⟩ := id ho124
      refine mw_vret hG a195_127 (hF _ _ _ ⟨rfl, rfl, _, _, _, _, _, _, _, _, hV, ho124, by omega, by omega, by omega, ?_, ?_, rfl, rfl⟩)
      · exact ((hZ.p97 hb (by omega) (by omega) (by omega)).p96 (i := g) (z := s)).fk (by omega)
      · intro hz
        show 1 ≤ mu R 97 g (en - a) 97 g
        rw [mu_e]
        omega
    | succ n ih =>
      intro i s h hV h3 h4 h5 h1 h2
      refine mw_iload hG a195_82 rfl ?_
      refine mw_aload hG a195_83 rfl ?_
      refine mw_geti hG hV a195_84 rfl ?_
      refine mw_icmp_ge hG a195_87 (by omega) (by omega) (fun z87 => by exfalso; omega) (fun z87 => ?_)
      refine mw_aload hG a195_90 rfl ?_
      refine mw_iload hG a195_91 rfl ?_
      refine mw_vp1 hG hV a195_92 (mw_sign hen hV (by omega) (by omega)) rfl (by omega) fun y92 hy92 => ?_
      have hr92 : -2147483648 ≤ y92 ∧ y92 < 2147483648 := by rw [hy92]; exact mw_sg_r _ _ _
      refine mw_push hG a195_95 mw_c109 ?_
      refine mw_icmp_ne hG a195_97 (by omega) (by omega) (fun z97 => ?_) (fun z97 => ?_)
      · refine mw_iinc hG a195_117 mw_c1 rfl rfl rfl ?_
        refine mw_goto hG a195_120 ?_
        first | exact ih _ _ _ hV h3 h4 h5 (by omega) (by omega) | exact ih _ _ _ (by rw [mu_mu] at hV; exact hV) h3 h4 h5 (by omega) (by omega)
      · refine mw_aload hG a195_100 rfl ?_
        refine mw_geta hG hV a195_101 rfl ?_
        refine mw_iload hG a195_104 rfl ?_
        refine mw_dup2 hG a195_105 rfl rfl ?_
        refine mw_ald hG hV a195_106 rfl (by omega) ?_
        refine mw_push hG a195_107 mw_c1 ?_
        refine mw_iload hG a195_108 rfl ?_
        refine mw_aload hG a195_109 rfl ?_
        refine mw_geti hG hV a195_110 rfl ?_
        refine mw_sub hG a195_113 ?_
        refine mw_any hG a195_114 ?_
        refine mw_any hG a195_115 ?_
        refine mw_iast hG hV a195_116 rfl (by omega) fun h hV => ?_
        refine mw_iinc hG a195_117 mw_c1 rfl rfl rfl ?_
        refine mw_goto hG a195_120 ?_
        first | exact ih _ _ _ hV h3 h4 h5 (by omega) (by omega) | exact ih _ _ _ (by rw [mu_mu] at hV; exact hV) h3 h4 h5 (by omega) (by omega)
  have t47 : ∀ (h : ev_H) (fk2 fp2 : Int), mw_V h0 h (mw_o B fk2 a fp2 en tok num nm cs wi pi ui) R → 0 ≤ fk2 → fk2 ≤ 5 → (fk ≠ 0 → fk2 ≠ 0) → (fk2 = 0 → fk = 0 ∧ a < en ∧ en - a ≤ 6) → (fk2 = 0 → fp2 = fp) → G 47 [(2, 83, 0), mw_i g, (9, 0, 0)] [] E h := by
    intro h fk2 fp2 hV g1 g2 g3 g4 g5
    have ho0 := hs0.fk g1 g2
    refine mw_aload hG a195_47 rfl ?_
    refine mw_vp0 hG hV a195_48 (mw_isGood hen hV (by omega)) rfl (by omega) fun y48 hy48 => ?_
    refine mw_ifc_ne hG a195_51 (by omega) (fun z51 => ?_) (fun z51 => ?_)
    · refine mw_aload hG a195_55 rfl ?_
      refine mw_geta hG hV a195_56 rfl ?_
      refine mw_iload hG a195_59 rfl ?_
      refine mw_push hG a195_60 mw_c0 ?_
      refine mw_iast hG hV a195_61 rfl (by omega) fun h hV => ?_
      refine mw_aload hG a195_62 rfl ?_
      refine mw_geta hG hV a195_63 rfl ?_
      refine mw_iload hG a195_66 rfl ?_
      refine mw_aload hG a195_67 rfl ?_
      refine mw_geti hG hV a195_68 rfl ?_
      refine mw_aload hG a195_71 rfl ?_
      refine mw_geti hG hV a195_72 rfl ?_
      refine mw_sub hG a195_75 ?_
      refine mw_iast hG hV a195_76 rfl (by omega) fun h hV => ?_
      refine mw_aload hG a195_77 rfl ?_
      refine mw_geti hG hV a195_78 rfl ?_
      refine mw_istore hG a195_81 rfl (Nat.le_of_ble_eq_true rfl) rfl ?_
      have hW := hV
      have e1 : fk2 = fk := by omega
      have e2 : fp2 = fp := g5 (by omega)
      subst e1
      subst e2
      rw [mu_c (show (96 : Nat) ≠ 97 by decide)] at hW
      exact l82 (en - a).toNat _ _ _ hW (by omega) (by omega) (by omega) (by omega) (by omega)
    · refine mw_vret hG a195_54 (hF _ _ _ ⟨rfl, rfl, _, _, _, _, _, _, _, _, hV, ho0, by omega, by omega, by omega, hZ.fk (by omega), fun z => absurd z (by omega), rfl, rfl⟩)
  refine mw_aload hG a195_0 rfl ?_
  refine mw_vp0 hG hV a195_1 (mw_isGood hen hV (by omega)) rfl (by omega) fun y1 hy1 => ?_
  refine mw_ifc_ne hG a195_4 (by omega) (fun z4 => ?_) (fun z4 => ?_)
  · refine mw_aload hG a195_8 rfl ?_
    refine mw_geti hG hV a195_9 rfl ?_
    refine mw_push hG a195_12 mw_c2 ?_
    refine mw_icmp_eq hG a195_13 (by omega) (by omega) (fun z13 => ?_) (fun z13 => ?_)
    · refine mw_aload hG a195_31 rfl ?_
      refine mw_vp0 hG hV a195_32 (mw_isShape hen hV hs0 (by omega)) rfl (by omega) fun y32 hy32 => ?_
      refine mw_ifc_ne hG a195_35 (by omega) (fun z35 => ?_) (fun z35 => ?_)
      · exact t47 _ _ _ hV (by omega) (by omega) (by omega) (by omega) (by omega)
      · refine mw_aload hG a195_38 rfl ?_
        refine mw_push hG a195_39 mw_c4 ?_
        refine mw_aload hG a195_40 rfl ?_
        refine mw_geti hG hV a195_41 rfl ?_
        refine mw_vv2 hG hV a195_44 (mw_fails hen hV (by omega)) rfl (by omega) fun h hq44 => ?_
        obtain ⟨fk44, fp44, hV, f44, e44⟩ := hq44
        have ho44 := (hs0).fk (fk2 := fk44) (by omega) (by omega)
        exact t47 _ _ _ hV (by omega) (by omega) (by omega) (by omega) (by omega)
    · refine mw_aload hG a195_16 rfl ?_
      refine mw_geti hG hV a195_17 rfl ?_
      refine mw_push hG a195_20 mw_c3 ?_
      refine mw_icmp_eq hG a195_21 (by omega) (by omega) (fun z21 => ?_) (fun z21 => ?_)
      · refine mw_aload hG a195_31 rfl ?_
        refine mw_vp0 hG hV a195_32 (mw_isShape hen hV hs0 (by omega)) rfl (by omega) fun y32 hy32 => ?_
        refine mw_ifc_ne hG a195_35 (by omega) (fun z35 => ?_) (fun z35 => ?_)
        · exact t47 _ _ _ hV (by omega) (by omega) (by omega) (by omega) (by omega)
        · refine mw_aload hG a195_38 rfl ?_
          refine mw_push hG a195_39 mw_c4 ?_
          refine mw_aload hG a195_40 rfl ?_
          refine mw_geti hG hV a195_41 rfl ?_
          refine mw_vv2 hG hV a195_44 (mw_fails hen hV (by omega)) rfl (by omega) fun h hq44 => ?_
          obtain ⟨fk44, fp44, hV, f44, e44⟩ := hq44
          have ho44 := (hs0).fk (fk2 := fk44) (by omega) (by omega)
          exact t47 _ _ _ hV (by omega) (by omega) (by omega) (by omega) (by omega)
      · refine mw_aload hG a195_24 rfl ?_
        refine mw_vv0 hG hV a195_25 (mw_misplaced hen hV (by omega) (by omega)) rfl (by omega) fun h hq25 => ?_
        obtain ⟨fk25, fp25, hV, f25, e25⟩ := hq25
        have ho25 := (hs0).fk (fk2 := fk25) (by omega) (by omega)
        refine mw_goto hG a195_28 ?_
        exact t47 _ _ _ hV (by omega) (by omega) (by omega) (by omega) (by omega)
  · refine mw_vret hG a195_7 (hF _ _ _ ⟨rfl, rfl, _, _, _, _, _, _, _, _, hV, hs0, by omega, by omega, by omega, hZ.fk (by omega), fun z => absurd z (by omega), rfl, rfl⟩)
set_option maxRecDepth 20000 in
theorem mw_readThing (hen : en_ok) {lc : Launch} {h0 h : ev_H} {E : e2_E} {B : Nat → Int} {fk a fp en tok num : Int} {nm : Nat} {cs wi pi ui : Int} {R : Nat → Int → Int} (hV : mw_V h0 h (mw_o B fk a fp en tok num nm cs wi pi ui) R) (hs : mw_ok (B 21) fk a en tok num nm) (hb : 0 ≤ B 13 ∧ B 13 ≤ 1) {R0 : Nat → Int → Int} (hZ : mw_Z R0 R (B 13) cs fk) (h4 : R 87 (B 13) < 4) : mw_Cv lc 5 193 [(2, 83, 0)] E h (fun h' => ∃ R2 fk2 a2 fp2 en2 tok2 num2 nm2, mw_V h0 h' (mw_o B fk2 a2 fp2 en2 tok2 num2 nm2 cs wi pi ui) R2 ∧ mw_ok (B 21) fk2 a2 en2 tok2 num2 nm2 ∧ a ≤ a2 ∧ en ≤ en2 ∧ (fk ≠ 0 → fk2 ≠ 0) ∧ mw_Z R0 R2 (B 13) cs fk2) := by
  refine mw_con (D := 4) (C := evd_193) (X := hx_193) [] hen ei_193 hxe_193 (Nat.le_of_ble_eq_true rfl) fun d0 F G hd hF hG => ?_
  show G 0 [(2, 83, 0), (9, 0, 0)] [] E h
  have hs0 := hs
  obtain ⟨s1, s2, s3, s4, s5, s6, s7, s8, s9, s10, s11, s12, s13⟩ := hs
  have h87 := hZ.1.g87 (i := B 13) (by omega)
  refine mw_push hG a193_0 mw_c4 ?_
  refine mw_aload hG a193_1 rfl ?_
  refine mw_geti hG hV a193_2 rfl ?_
  refine mw_mul hG a193_5 ?_
  refine mw_aload hG a193_6 rfl ?_
  refine mw_geta hG hV a193_7 rfl ?_
  refine mw_aload hG a193_10 rfl ?_
  refine mw_geti hG hV a193_11 rfl ?_
  refine mw_ald hG hV a193_14 rfl (by omega) ?_
  refine mw_add hG a193_15 ?_
  refine mw_istore hG a193_16 rfl (Nat.le_of_ble_eq_true rfl) rfl ?_
  refine mw_aload hG a193_17 rfl ?_
  refine mw_geta hG hV a193_18 rfl ?_
  refine mw_iload hG a193_21 rfl ?_
  refine mw_aload hG a193_22 rfl ?_
  refine mw_aload hG a193_23 rfl ?_
  refine mw_vp0 hG hV a193_24 (mw_thingHere hen hV hs0 hb (by omega)) rfl (by omega) fun y24 hy24 => ?_
  refine mw_vl1 hG hV a193_27 (mw_fresh hen hV hs0 (by omega)) rfl (by omega) fun v27 h hx27 hq27 => ?_
  obtain ⟨fk27, a27, fp27, en27, tok27, num27, nm27, hV, ho27, f27, e27, d27⟩ := hq27
  obtain ⟨o27a, o27b, o27c, o27d, o27e, o27f, o27g, o27h, o27i, o27j, o27k, o27l, o27m⟩ := id ho27
  refine mw_last hG hV a193_30 (Or.inl ⟨rfl, rfl⟩) (by omega) ?_
  refine mw_aload hG a193_31 rfl ?_
  refine mw_geta hG hV a193_32 rfl ?_
  refine mw_iload hG a193_35 rfl ?_
  refine mw_aload hG a193_36 rfl ?_
  refine mw_pushl hG a193_37 ?_
  refine mw_push hG a193_40 mw_c0 ?_
  refine mw_push hG a193_41 mw_c99 ?_
  refine mw_vi3 hG hV a193_43 (mw_after hen hV ho27 (by omega) (by omega)) rfl (by omega) fun v43 h hq43 => ?_
  obtain ⟨fk43, a43, fp43, en43, tok43, num43, nm43, hV, ho43, f43, e43, d43, l43, u43⟩ := hq43
  obtain ⟨o43a, o43b, o43c, o43d, o43e, o43f, o43g, o43h, o43i, o43j, o43k, o43l, o43m⟩ := id ho43
  refine mw_iast hG hV a193_46 rfl (by omega) fun h hV => ?_
  refine mw_aload hG a193_47 rfl ?_
  refine mw_geta hG hV a193_48 rfl ?_
  refine mw_aload hG a193_51 rfl ?_
  refine mw_geti hG hV a193_52 rfl ?_
  refine mw_dup2 hG a193_55 rfl rfl ?_
  refine mw_ald hG hV a193_56 rfl (by omega) ?_
  refine mw_push hG a193_57 mw_c1 ?_
  refine mw_add hG a193_58 ?_
  refine mw_iast hG hV a193_59 rfl (by omega) fun h hV => ?_
  refine mw_vret hG a193_60 (hF _ _ _ ⟨rfl, rfl, _, _, _, _, _, _, _, _, hV, ho43, by omega, by omega, by omega, ?_⟩)
  have e1 : ∀ t z : Int, mu R 95 t z 87 (B 13) = R 87 (B 13) := fun _ _ => rfl
  exact (hZ.fk (by omega)).p95.p87 (by rw [e1]; omega)
set_option maxHeartbeats 8000000 in
set_option maxRecDepth 20000 in
theorem mw_readGlyph (hen : en_ok) {lc : Launch} {h0 h : ev_H} {E : e2_E} {B : Nat → Int} {fk a fp en tok num : Int} {nm : Nat} {cs wi pi ui : Int} {R : Nat → Int → Int} (hV : mw_V h0 h (mw_o B fk a fp en tok num nm cs wi pi ui) R) (hs : mw_ok (B 21) fk a en tok num nm) (hb : 0 ≤ B 13 ∧ B 13 ≤ 1) {R0 : Nat → Int → Int} (hZ : mw_Z R0 R (B 13) cs fk) (h8 : R 88 (B 13) < 8) : mw_Cv lc 4 196 [(2, 83, 0)] E h (fun h' => ∃ R2 fk2 a2 fp2 en2 tok2 num2 nm2, mw_V h0 h' (mw_o B fk2 a2 fp2 en2 tok2 num2 nm2 cs wi pi ui) R2 ∧ mw_ok (B 21) fk2 a2 en2 tok2 num2 nm2 ∧ a ≤ a2 ∧ en ≤ en2 ∧ (fk ≠ 0 → fk2 ≠ 0) ∧ mw_Z R0 R2 (B 13) cs fk2) := by
  refine mw_con (D := 3) (C := evd_196) (X := hx_196) [] hen ei_196 hxe_196 (Nat.le_of_ble_eq_true rfl) fun d0 F G hd hF hG => ?_
  show G 0 [(2, 83, 0), (9, 0, 0)] [] E h
  have hs0 := hs
  obtain ⟨s1, s2, s3, s4, s5, s6, s7, s8, s9, s10, s11, s12, s13⟩ := hs
  have h87 := hZ.1.g87 (i := B 13) (by omega)
  have h88 := hZ.1.g88 (i := B 13) (by omega)
  refine mw_push hG a196_0 mw_c8 ?_
  refine mw_aload hG a196_2 rfl ?_
  refine mw_geti hG hV a196_3 rfl ?_
  refine mw_mul hG a196_6 ?_
  refine mw_aload hG a196_7 rfl ?_
  refine mw_geta hG hV a196_8 rfl ?_
  refine mw_aload hG a196_11 rfl ?_
  refine mw_geti hG hV a196_12 rfl ?_
  refine mw_ald hG hV a196_15 rfl (by omega) ?_
  refine mw_add hG a196_16 ?_
  refine mw_istore hG a196_17 rfl (Nat.le_of_ble_eq_true rfl) rfl ?_
  refine mw_aload hG a196_18 rfl ?_
  refine mw_geta hG hV a196_19 rfl ?_
  refine mw_iload hG a196_22 rfl ?_
  refine mw_aload hG a196_23 rfl ?_
  refine mw_aload hG a196_24 rfl ?_
  refine mw_vp0 hG hV a196_25 (mw_glyphHere hen hV hs0 hb (by omega)) rfl (by omega) fun y25 hy25 => ?_
  refine mw_vl1 hG hV a196_28 (mw_fresh hen hV hs0 (by omega)) rfl (by omega) fun v28 h hx28 hq28 => ?_
  obtain ⟨fk28, a28, fp28, en28, tok28, num28, nm28, hV, ho28, f28, e28, d28⟩ := hq28
  obtain ⟨o28a, o28b, o28c, o28d, o28e, o28f, o28g, o28h, o28i, o28j, o28k, o28l, o28m⟩ := id ho28
  have F28 : a ≤ a28 := by omega
  have E28 : en ≤ en28 := by omega
  have D28 : fk ≠ 0 → fk28 ≠ 0 := by omega
  refine mw_last hG hV a196_31 (Or.inr ⟨rfl, rfl⟩) (by omega) ?_
  refine mw_aload hG a196_32 rfl ?_
  refine mw_iload hG a196_33 rfl ?_
  refine mw_vv1 hG hV a196_34 (mw_readShape hen hV ho28 hb (hZ.fk (by omega)) (by omega)) rfl (by omega) fun h hq34 => ?_
  obtain ⟨R34, fk34, a34, fp34, en34, tok34, num34, nm34, hV, ho34, f34, e34, d34, z34, w34, x34, y34⟩ := hq34
  obtain ⟨o34a, o34b, o34c, o34d, o34e, o34f, o34g, o34h, o34i, o34j, o34k, o34l, o34m⟩ := id ho34
  have g87 := z34.1.g87 (i := B 13) (by omega)
  have F34 : a ≤ a34 := by omega
  have E34 : en ≤ en34 := by omega
  have D34 : fk ≠ 0 → fk34 ≠ 0 := by omega
  clear F28 E28 D28 f28 e28 o28a o28b o28c o28d o28e o28f o28g o28h o28i o28j o28k o28l o28m
  refine mw_aload hG a196_37 rfl ?_
  refine mw_aload hG a196_38 rfl ?_
  refine mw_pushl hG a196_39 ?_
  refine mw_vp1 hG hV a196_42 (mw_isWord hen hV ho34 (by omega)) rfl (by omega) fun y42 hy42 => ?_
  refine mw_vv1 hG hV a196_45 (mw_must hen hV ho34 (by omega)) rfl (by omega) fun h hq45 => ?_
  obtain ⟨fk45, a45, fp45, en45, tok45, num45, nm45, hV, ho45, f45, e45, d45, c45⟩ := hq45
  obtain ⟨o45a, o45b, o45c, o45d, o45e, o45f, o45g, o45h, o45i, o45j, o45k, o45l, o45m⟩ := id ho45
  have F45 : a ≤ a45 := by omega
  have E45 : en ≤ en45 := by omega
  have D45 : fk ≠ 0 → fk45 ≠ 0 := by omega
  clear F34 E34 D34 f34 e34 o34a o34b o34c o34d o34e o34f o34g o34h o34i o34j o34k o34l o34m
  refine mw_aload hG a196_48 rfl ?_
  refine mw_geta hG hV a196_49 rfl ?_
  refine mw_iload hG a196_52 rfl ?_
  refine mw_aload hG a196_53 rfl ?_
  refine mw_aload hG a196_54 rfl ?_
  refine mw_vp0 hG hV a196_55 (mw_thingHere hen hV ho45 hb (by omega)) rfl (by omega) fun y55 hy55 => ?_
  refine mw_vi1 hG hV a196_58 (mw_known hen hV ho45 (by omega)) rfl (by omega) fun v58 h hq58 => ?_
  obtain ⟨fk58, a58, fp58, en58, tok58, num58, nm58, hV, ho58, f58, e58, d58, c58⟩ := hq58
  obtain ⟨o58a, o58b, o58c, o58d, o58e, o58f, o58g, o58h, o58i, o58j, o58k, o58l, o58m⟩ := id ho58
  have F58 : a ≤ a58 := by omega
  have E58 : en ≤ en58 := by omega
  have D58 : fk ≠ 0 → fk58 ≠ 0 := by omega
  clear F45 E45 D45 f45 e45 o45a o45b o45c o45d o45e o45f o45g o45h o45i o45j o45k o45l o45m
  refine mw_iast hG hV a196_61 rfl (by omega) fun h hV => ?_
  refine mw_aload hG a196_62 rfl ?_
  refine mw_geta hG hV a196_63 rfl ?_
  refine mw_iload hG a196_66 rfl ?_
  refine mw_aload hG a196_67 rfl ?_
  refine mw_vi0 hG hV a196_68 (mw_signed hen hV ho58) rfl (by omega) fun v68 h hq68 => ?_
  obtain ⟨fk68, a68, fp68, en68, tok68, num68, nm68, hV, ho68, f68, e68, d68⟩ := hq68
  obtain ⟨o68a, o68b, o68c, o68d, o68e, o68f, o68g, o68h, o68i, o68j, o68k, o68l, o68m⟩ := id ho68
  have F68 : a ≤ a68 := by omega
  have E68 : en ≤ en68 := by omega
  have D68 : fk ≠ 0 → fk68 ≠ 0 := by omega
  clear F58 E58 D58 f58 e58 o58a o58b o58c o58d o58e o58f o58g o58h o58i o58j o58k o58l o58m
  refine mw_iast hG hV a196_71 rfl (by omega) fun h hV => ?_
  refine mw_aload hG a196_72 rfl ?_
  refine mw_geta hG hV a196_73 rfl ?_
  refine mw_aload hG a196_76 rfl ?_
  refine mw_geti hG hV a196_77 rfl ?_
  refine mw_dup2 hG a196_80 rfl rfl ?_
  refine mw_ald hG hV a196_81 rfl (by omega) ?_
  refine mw_push hG a196_82 mw_c1 ?_
  refine mw_add hG a196_83 ?_
  refine mw_iast hG hV a196_84 rfl (by omega) fun h hV => ?_
  refine mw_vret hG a196_85 (hF _ _ _ ⟨rfl, rfl, _, _, _, _, _, _, _, _, hV, ho68, by omega, by omega, by omega, ?_⟩)
  have q1 := z34.fk (fk2 := fk68) (by omega)
  have q2 := q1.p98 (i := 8 * B 13 + R 88 (B 13)) (z := v58) (by omega)
  have q3 := q2.p99 (i := 8 * B 13 + R 88 (B 13)) (z := v68)
  have q4 := q3.p88 hb (z := R34 88 (B 13) + 1) rfl (show R34 88 (B 13) < 8 by omega) (show fk68 = 0 → 1 ≤ R34 97 (8 * B 13 + R34 88 (B 13)) from fun hf => by rw [x34]; exact w34 (by omega))
  exact q4
set_option maxRecDepth 20000 in
theorem mw_readNever (hen : en_ok) {lc : Launch} {h0 h : ev_H} {E : e2_E} {B : Nat → Int} {fk a fp en tok num : Int} {nm : Nat} {cs wi pi ui : Int} {R : Nat → Int → Int} (hV : mw_V h0 h (mw_o B fk a fp en tok num nm cs wi pi ui) R) (hs : mw_ok (B 21) fk a en tok num nm) (hb : 0 ≤ B 13 ∧ B 13 ≤ 1) {R0 : Nat → Int → Int} (hZ : mw_Z R0 R (B 13) cs fk) : mw_Cv lc 4 197 [(2, 83, 0)] E h (fun h' => ∃ R2 fk2 a2 fp2 en2 tok2 num2 nm2, mw_V h0 h' (mw_o B fk2 a2 fp2 en2 tok2 num2 nm2 cs wi pi ui) R2 ∧ mw_ok (B 21) fk2 a2 en2 tok2 num2 nm2 ∧ a ≤ a2 ∧ en ≤ en2 ∧ (fk ≠ 0 → fk2 ≠ 0) ∧ mw_Z R0 R2 (B 13) cs fk2) := by
  refine mw_con (D := 3) (C := evd_197) (X := hx_197) [] hen ei_197 hxe_197 (Nat.le_of_ble_eq_true rfl) fun d0 F G hd hF hG => ?_
  show G 0 [(2, 83, 0), (9, 0, 0), (9, 0, 0)] [] E h
  have hs0 := hs
  obtain ⟨s1, s2, s3, s4, s5, s6, s7, s8, s9, s10, s11, s12, s13⟩ := hs
  have h88 := hZ.1.g88 (i := B 13) (by omega)
  have t57 : ∀ (h : ev_H) (fk2 a2 fp2 en2 tok2 num2 : Int) (nm2 : Nat) (c d : Int), mw_V h0 h (mw_o B fk2 a2 fp2 en2 tok2 num2 nm2 cs wi pi ui) R → mw_ok (B 21) fk2 a2 en2 tok2 num2 nm2 → a ≤ a2 → en ≤ en2 → (fk ≠ 0 → fk2 ≠ 0) → 0 ≤ c → c ≤ 7 → -1 ≤ d → d ≤ 7 → G 57 [(2, 83, 0), mw_i c, mw_i d] [] E h := by
    intro h fk2 a2 fp2 en2 tok2 num2 nm2 c d hV ho g1 g2 g3 c1 c2 d1 d2
    have ho0 := ho
    obtain ⟨p1, p2, p3, p4, p5, p6, p7, p8, p9, p10, p11, p12, p13⟩ := ho
    refine mw_aload hG a197_57 rfl ?_
    refine mw_iload hG a197_58 rfl ?_
    refine mw_vi1 hG hV a197_59 (mw_known hen hV ho0 (by omega)) rfl (by omega) fun v59 h hq59 => ?_
    obtain ⟨fk59, a59, fp59, en59, tok59, num59, nm59, hV, ho59, f59, e59, d59, c59⟩ := hq59
    obtain ⟨o59a, o59b, o59c, o59d, o59e, o59f, o59g, o59h, o59i, o59j, o59k, o59l, o59m⟩ := id ho59
    refine mw_istore hG a197_62 rfl (Nat.le_of_ble_eq_true rfl) rfl ?_
    refine mw_aload hG a197_63 rfl ?_
    refine mw_geta hG hV a197_64 rfl ?_
    refine mw_push hG a197_67 mw_c8 ?_
    refine mw_aload hG a197_69 rfl ?_
    refine mw_geti hG hV a197_70 rfl ?_
    refine mw_mul hG a197_73 ?_
    refine mw_iload hG a197_74 rfl ?_
    refine mw_add hG a197_75 ?_
    refine mw_dup2 hG a197_76 rfl rfl ?_
    refine mw_ald hG hV a197_77 rfl (by omega) ?_
    refine mw_push hG a197_78 mw_c1 ?_
    refine mw_iload hG a197_79 rfl ?_
    refine mw_any hG a197_80 ?_
    refine mw_any hG a197_81 ?_
    refine mw_iast hG hV a197_82 rfl (by omega) fun h hV => ?_
    refine mw_aload hG a197_83 rfl ?_
    refine mw_geta hG hV a197_84 rfl ?_
    refine mw_aload hG a197_87 rfl ?_
    refine mw_geti hG hV a197_88 rfl ?_
    refine mw_dup2 hG a197_91 rfl rfl ?_
    refine mw_ald hG hV a197_92 rfl (by omega) ?_
    refine mw_push hG a197_93 mw_c1 ?_
    refine mw_add hG a197_94 ?_
    refine mw_norm ?_
    refine mw_iast hG hV a197_95 rfl (by omega) fun h hV => ?_
    refine mw_vret hG a197_96 (hF _ _ _ ⟨rfl, rfl, _, _, _, _, _, _, _, _, hV, ho59, by omega, by omega, by omega, ?_⟩)
    exact ((hZ.fk (by omega)).p100).p89 (mw_rn2 _)
  refine mw_aload hG a197_0 rfl ?_
  refine mw_aload hG a197_1 rfl ?_
  refine mw_vp0 hG hV a197_2 (mw_glyphHere hen hV hs0 hb (by omega)) rfl (by omega) fun y2 hy2 => ?_
  refine mw_vi1 hG hV a197_5 (mw_known hen hV hs0 (by omega)) rfl (by omega) fun v5 h hq5 => ?_
  obtain ⟨fk5, a5, fp5, en5, tok5, num5, nm5, hV, ho5, f5, e5, d5, c5⟩ := hq5
  obtain ⟨o5a, o5b, o5c, o5d, o5e, o5f, o5g, o5h, o5i, o5j, o5k, o5l, o5m⟩ := id ho5
  refine mw_istore hG a197_8 rfl (Nat.le_of_ble_eq_true rfl) rfl ?_
  refine mw_aload hG a197_9 rfl ?_
  refine mw_vp0 hG hV a197_10 (mw_isGood hen hV (by omega)) rfl (by omega) fun y10 hy10 => ?_
  refine mw_ifc_ne hG a197_13 (by omega) (fun z13 => ?_) (fun z13 => ?_)
  · refine mw_aload hG a197_17 rfl ?_
    refine mw_vp0 hG hV a197_18 (mw_glyphHere hen hV ho5 hb (by omega)) rfl (by omega) fun y18 hy18 => ?_
    refine mw_istore hG a197_21 rfl (Nat.le_of_ble_eq_true rfl) rfl ?_
    refine mw_iload hG a197_22 rfl ?_
    refine mw_ifc_lt hG a197_23 (by omega) (fun z23 => ?_) (fun z23 => ?_)
    · exact t57 _ _ _ _ _ _ _ _ _ _ hV ho5 (by omega) (by omega) (by omega) (by omega) (by omega) (by omega) (by omega)
    · refine mw_aload hG a197_26 rfl ?_
      refine mw_geta hG hV a197_27 rfl ?_
      refine mw_push hG a197_30 mw_c8 ?_
      refine mw_aload hG a197_32 rfl ?_
      refine mw_geti hG hV a197_33 rfl ?_
      refine mw_mul hG a197_36 ?_
      refine mw_iload hG a197_37 rfl ?_
      refine mw_add hG a197_38 ?_
      refine mw_ald hG hV a197_39 rfl (by omega) ?_
      refine mw_iload hG a197_40 rfl ?_
      refine mw_any hG a197_41 ?_
      refine mw_push hG a197_42 mw_c1 ?_
      refine mw_any hG a197_43 ?_
      refine mw_push hG a197_44 mw_c1 ?_
      refine mw_icmp_ne hG a197_45 (mw_rI _) (by omega) (fun z45 => ?_) (fun z45 => ?_)
      · exact t57 _ _ _ _ _ _ _ _ _ _ hV ho5 (by omega) (by omega) (by omega) (by omega) (by omega) (by omega) (by omega)
      · refine mw_aload hG a197_48 rfl ?_
        refine mw_push hG a197_49 mw_c3 ?_
        refine mw_aload hG a197_50 rfl ?_
        refine mw_geti hG hV a197_51 rfl ?_
        refine mw_vv2 hG hV a197_54 (mw_fails hen hV (by omega)) rfl (by omega) fun h hq54 => ?_
        obtain ⟨fk54, fp54, hV, f54, e54⟩ := hq54
        have ho54 := (ho5).fk (fk2 := fk54) (by omega) (by omega)
        exact t57 _ _ _ _ _ _ _ _ _ _ hV ho54 (by omega) (by omega) (by omega) (by omega) (by omega) (by omega) (by omega)
  · refine mw_vret hG a197_16 (hF _ _ _ ⟨rfl, rfl, _, _, _, _, _, _, _, _, hV, ho5, by omega, by omega, by omega, hZ.fk (by omega)⟩)
set_option maxRecDepth 20000 in
theorem mw_readBarn (hen : en_ok) {lc : Launch} {h0 h : ev_H} {E : e2_E} {B : Nat → Int} {fk a fp en tok num : Int} {nm : Nat} {cs wi pi ui : Int} {R : Nat → Int → Int} (hV : mw_V h0 h (mw_o B fk a fp en tok num nm cs wi pi ui) R) (hs : mw_ok (B 21) fk a en tok num nm) (hb : 0 ≤ B 13 ∧ B 13 ≤ 1) {R0 : Nat → Int → Int} (hZ : mw_Z R0 R (B 13) cs fk) : mw_Cv lc 4 198 [(2, 83, 0)] E h (fun h' => ∃ R2 fk2 a2 fp2 en2 tok2 num2 nm2, mw_V h0 h' (mw_o B fk2 a2 fp2 en2 tok2 num2 nm2 cs wi pi ui) R2 ∧ mw_ok (B 21) fk2 a2 en2 tok2 num2 nm2 ∧ a ≤ a2 ∧ en ≤ en2 ∧ (fk ≠ 0 → fk2 ≠ 0) ∧ mw_Z R0 R2 (B 13) cs fk2) := by
  refine mw_con (D := 3) (C := evd_198) (X := hx_198) [] hen ei_198 hxe_198 (Nat.le_of_ble_eq_true rfl) fun d0 F G hd hF hG => ?_
  show G 0 [(2, 83, 0), (9, 0, 0), (9, 0, 0)] [] E h
  have hs0 := hs
  obtain ⟨s1, s2, s3, s4, s5, s6, s7, s8, s9, s10, s11, s12, s13⟩ := hs
  have h86 : 4 ≤ R 86 (B 13) ∧ R 86 (B 13) ≤ 20 := by
    have h1 := hZ.2.1.1.2.2
    rw [show 1 - (1 - B 13) = B 13 by omega] at h1
    exact ⟨h1, (hZ.1.g86 (i := B 13) (by omega)).2⟩
  have t52 : ∀ (h : ev_H) (fk2 a2 fp2 en2 tok2 num2 : Int) (nm2 : Nat) (c d : Int), mw_V h0 h (mw_o B fk2 a2 fp2 en2 tok2 num2 nm2 cs wi pi ui) R → mw_ok (B 21) fk2 a2 en2 tok2 num2 nm2 → a ≤ a2 → en ≤ en2 → (fk ≠ 0 → fk2 ≠ 0) → G 52 [(2, 83, 0), mw_i c, mw_i d] [] E h := by
    intro h fk2 a2 fp2 en2 tok2 num2 nm2 c d hV ho g1 g2 g3
    have ho0 := ho
    obtain ⟨p1, p2, p3, p4, p5, p6, p7, p8, p9, p10, p11, p12, p13⟩ := ho
    refine mw_aload hG a198_52 rfl ?_
    refine mw_geta hG hV a198_53 rfl ?_
    refine mw_aload hG a198_56 rfl ?_
    refine mw_geti hG hV a198_57 rfl ?_
    refine mw_dup2 hG a198_60 rfl rfl ?_
    refine mw_ald hG hV a198_61 rfl (by omega) ?_
    refine mw_push hG a198_62 mw_c1 ?_
    refine mw_iload hG a198_63 rfl ?_
    refine mw_any hG a198_64 ?_
    refine mw_any hG a198_65 ?_
    refine mw_iast hG hV a198_66 rfl (by omega) fun h hV => ?_
    refine mw_aload hG a198_67 rfl ?_
    refine mw_geta hG hV a198_68 rfl ?_
    refine mw_aload hG a198_71 rfl ?_
    refine mw_geti hG hV a198_72 rfl ?_
    refine mw_dup2 hG a198_75 rfl rfl ?_
    refine mw_ald hG hV a198_76 rfl (by omega) ?_
    refine mw_push hG a198_77 mw_c1 ?_
    refine mw_add hG a198_78 ?_
    refine mw_norm ?_
    refine mw_iast hG hV a198_79 rfl (by omega) fun h hV => ?_
    refine mw_vret hG a198_80 (hF _ _ _ ⟨rfl, rfl, _, _, _, _, _, _, _, _, hV, ho0, by omega, by omega, by omega, ?_⟩)
    exact ((hZ.fk (by omega)).p91).p90 (mw_rn2 _)
  refine mw_aload hG a198_0 rfl ?_
  refine mw_geti hG hV a198_1 rfl ?_
  refine mw_istore hG a198_4 rfl (Nat.le_of_ble_eq_true rfl) rfl ?_
  refine mw_aload hG a198_5 rfl ?_
  refine mw_push hG a198_6 mw_c0 ?_
  refine mw_aload hG a198_7 rfl ?_
  refine mw_geta hG hV a198_8 rfl ?_
  refine mw_aload hG a198_11 rfl ?_
  refine mw_geti hG hV a198_12 rfl ?_
  refine mw_ald hG hV a198_15 rfl (by omega) ?_
  refine mw_push hG a198_16 mw_c1 ?_
  refine mw_sub hG a198_17 ?_
  refine mw_vi2 hG hV a198_18 (mw_numeral hen hV hs0 (by omega)) rfl (by omega) fun v18 h hq18 => ?_
  obtain ⟨fk18, a18, fp18, en18, tok18, num18, nm18, hV, ho18, f18, e18, d18, c18, l18, u18⟩ := hq18
  obtain ⟨o18a, o18b, o18c, o18d, o18e, o18f, o18g, o18h, o18i, o18j, o18k, o18l, o18m⟩ := id ho18
  refine mw_istore hG a198_21 rfl (Nat.le_of_ble_eq_true rfl) rfl ?_
  refine mw_aload hG a198_22 rfl ?_
  refine mw_vp0 hG hV a198_23 (mw_isGood hen hV (by omega)) rfl (by omega) fun y23 hy23 => ?_
  refine mw_ifc_eq hG a198_26 (by omega) (fun z26 => ?_) (fun z26 => ?_)
  · exact t52 _ _ _ _ _ _ _ _ _ _ hV ho18 (by omega) (by omega) (by omega)
  · refine mw_aload hG a198_29 rfl ?_
    refine mw_geta hG hV a198_30 rfl ?_
    refine mw_aload hG a198_33 rfl ?_
    refine mw_geti hG hV a198_34 rfl ?_
    refine mw_ald hG hV a198_37 rfl (by omega) ?_
    refine mw_iload hG a198_38 rfl ?_
    refine mw_any hG a198_39 ?_
    refine mw_push hG a198_40 mw_c1 ?_
    refine mw_any hG a198_41 ?_
    refine mw_push hG a198_42 mw_c1 ?_
    refine mw_icmp_ne hG a198_43 (mw_rI _) (by omega) (fun z43 => ?_) (fun z43 => ?_)
    · exact t52 _ _ _ _ _ _ _ _ _ _ hV ho18 (by omega) (by omega) (by omega)
    · refine mw_aload hG a198_46 rfl ?_
      refine mw_push hG a198_47 mw_c3 ?_
      refine mw_iload hG a198_48 rfl ?_
      refine mw_vv2 hG hV a198_49 (mw_fails hen hV (by omega)) rfl (by omega) fun h hq49 => ?_
      obtain ⟨fk49, fp49, hV, f49, e49⟩ := hq49
      have ho49 := (ho18).fk (fk2 := fk49) (by omega) (by omega)
      exact t52 _ _ _ _ _ _ _ _ _ _ hV ho49 (by omega) (by omega) (by omega)
