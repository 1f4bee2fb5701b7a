/-! THE REFERENCE'S MEADOW: a rule's pile and its code, as numbers -/
def mw_bc (W : Int → Int) : Nat → Nat
  | 0 => 0
  | k + 1 => mw_bc W k + (if W ((k + 1 : Nat) : Int) = 3 ∨ W ((k + 1 : Nat) : Int) = 7 then 0 else 1)
theorem mw_bc_s (W : Int → Int) (k : Nat) : mw_bc W (k + 1) = mw_bc W k + (if W ((k + 1 : Nat) : Int) = 3 ∨ W ((k + 1 : Nat) : Int) = 7 then 0 else 1) := rfl
theorem mw_bc_cg {W W2 : Int → Int} {q : Nat} (h : ∀ k : Nat, k ≤ q → W2 (k : Int) = W (k : Int)) : mw_bc W2 q = mw_bc W q := by
  induction q with
  | zero => rfl
  | succ q ih =>
    rw [mw_bc_s, mw_bc_s, ih fun k hk => h k (by omega), h (q + 1) (Nat.le_refl _)]
theorem mw_bc_le (W : Int → Int) (q : Nat) : mw_bc W q ≤ q := by
  induction q with
  | zero => exact Nat.le_refl _
  | succ q ih =>
    rw [mw_bc_s]
    split <;> omega
/-- an operator's entry -/
def mw_en (w s : Int) : Prop := (w = 3 ∧ s = 126) ∨ w = 7 ∨ ((w = 1 ∨ w = 2 ∨ w = 4 ∨ w = 5 ∨ w = 6) ∧ 0 ≤ s ∧ s ≤ 125 ∧ (s < 97 ∨ 122 < s))
def mw_eE (W T : Int → Int) (q : Nat) : Prop := W 0 = 8 ∧ ∀ k : Nat, 1 ≤ k → k ≤ q → mw_en (W (k : Int)) (T (k : Int))
theorem mw_eE.rng {W T : Int → Int} {q : Nat} (h : mw_eE W T q) {k : Nat} (hk : k ≤ q) : 1 ≤ W (k : Int) ∧ W (k : Int) ≤ 8 ∧ (k = 0 → W (k : Int) = 8) ∧ (W (k : Int) = 8 → k = 0) := by
  by_cases h0 : k = 0
  · subst h0
    have : W ((0 : Nat) : Int) = 8 := h.1
    omega
  · have := h.2 k (by omega) hk
    unfold mw_en at this
    omega
theorem mw_eE.mono {W T : Int → Int} {q p : Nat} (h : mw_eE W T q) (hp : p ≤ q) : mw_eE W T p := ⟨h.1, fun k h1 h2 => h.2 k h1 (by omega)⟩
section Push
variable {R : Nat → Int → Int} {q : Nat} {p w s : Int}
theorem mw_ps1 (hp : p = ((q + 1 : Nat) : Int)) {k : Nat} (hk : k ≤ q) : mu (mu R 109 p w) 110 p s 109 (k : Int) = R 109 (k : Int) := by
  show mu R 109 p w 109 (k : Int) = R 109 (k : Int)
  rw [mu_n (by omega)]
theorem mw_ps2 (hp : p = ((q + 1 : Nat) : Int)) {k : Nat} (hk : k ≤ q) : mu (mu R 109 p w) 110 p s 110 (k : Int) = R 110 (k : Int) := by
  rw [mu_n (by omega)]
  rfl
theorem mw_eE.push (h : mw_eE (R 109) (R 110) q) (hp : p = ((q + 1 : Nat) : Int)) (hw : mw_en w s) : mw_eE (mu (mu R 109 p w) 110 p s 109) (mu (mu R 109 p w) 110 p s 110) (q + 1) := by
  refine ⟨?_, fun k h1 h2 => ?_⟩
  · have := mw_ps1 (R := R) (w := w) (s := s) hp (Nat.zero_le q)
    exact this.trans h.1
  · by_cases hk : k = q + 1
    · have e1 : mu (mu R 109 p w) 110 p s 109 (k : Int) = w := by
        show mu R 109 p w 109 (k : Int) = w
        rw [show (k : Int) = p by omega, mu_e]
      have e2 : mu (mu R 109 p w) 110 p s 110 (k : Int) = s := by rw [show (k : Int) = p by omega, mu_e]
      rw [e1, e2]
      exact hw
    · rw [mw_ps1 hp (by omega), mw_ps2 hp (by omega)]
      exact h.2 k h1 (by omega)
theorem mw_bc_push (hp : p = ((q + 1 : Nat) : Int)) : mw_bc (mu (mu R 109 p w) 110 p s 109) (q + 1) = mw_bc (R 109) q + (if w = 3 ∨ w = 7 then 0 else 1) := by
  rw [mw_bc_s, mw_bc_cg (W := R 109) fun k hk => mw_ps1 hp hk]
  have e1 : mu (mu R 109 p w) 110 p s 109 ((q + 1 : Nat) : Int) = w := by
    show mu R 109 p w 109 ((q + 1 : Nat) : Int) = w
    rw [← hp, mu_e]
  rw [e1]
end Push
def mw_C (K : Int → Int) : Nat → Int32 := fun i => Int32.ofInt (K (i : Int))
theorem rf_h_s (cd : Nat → Int32) (fr m : Nat) : rf_h cd fr (m + 1) = if cd (fr + m) = 126 then rf_h cd fr m else @ite _ (rf_L (cd (fr + m))) (Classical.propDecidable _) (rf_h cd fr m + 1) (rf_h cd fr m - 1) := rfl
theorem rf_h_cg {C D : Nat → Int32} {fr L : Nat} (h : ∀ m, m < L → D (fr + m) = C (fr + m)) : ∀ m, m ≤ L → rf_h D fr m = rf_h C fr m := by
  intro m
  induction m with
  | zero => intro _; rfl
  | succ m ih =>
    intro hm
    rw [rf_h_s, rf_h_s, ih (by omega), h m (by omega)]
theorem rf_W_cg {C D : Nat → Int32} {fr L : Nat} (h : ∀ m, m < L → D (fr + m) = C (fr + m)) (hW : rf_W C fr L) : rf_W D fr L := fun m hm => by
  rw [h m hm, rf_h_cg h m (by omega)]
  exact hW m hm
theorem mw_126 : (126 : Int32) = Int32.ofInt 126 := by decide +kernel
theorem mw_is126 {c : Int} (hc : 0 ≤ c ∧ c ≤ 127) : Int32.ofInt c = 126 ↔ c = 126 := by
  rw [mw_126]
  exact mw_eq (by omega) (by omega)
theorem mw_isL {c : Int} (hc : 0 ≤ c ∧ c ≤ 127) : rf_L (Int32.ofInt c) ↔ 97 ≤ c ∧ c ≤ 122 := by
  have h : (ev_key (Int32.ofInt c) : Int) = c + 2147483648 := by rw [ev_key_int, show (Int32.ofInt c).toInt = c from mw_nn (by omega)]
  unfold rf_L
  omega
/-- an item more -/
theorem mw_emits {R : Nat → Int → Int} {fr L : Nat} {cs c : Int} (hcs : cs = ((fr + L : Nat) : Int)) (hW : rf_W (mw_C (R 107)) fr L) (hc : 0 ≤ c ∧ c ≤ 127) (h1 : c = 126 → 1 ≤ rf_h (mw_C (R 107)) fr L) (h2 : 97 ≤ c ∧ c ≤ 122 → rf_h (mw_C (R 107)) fr L < 60) (h3 : c ≠ 126 → (c < 97 ∨ 122 < c) → 2 ≤ rf_h (mw_C (R 107)) fr L) :
    rf_W (mw_C (mu R 107 cs c 107)) fr (L + 1) ∧ rf_h (mw_C (mu R 107 cs c 107)) fr (L + 1) = (if c = 126 then rf_h (mw_C (R 107)) fr L else if 97 ≤ c ∧ c ≤ 122 then rf_h (mw_C (R 107)) fr L + 1 else rf_h (mw_C (R 107)) fr L - 1) := by
  have ag : ∀ m, m < L → mw_C (mu R 107 cs c 107) (fr + m) = mw_C (R 107) (fr + m) := fun m hm => by
    unfold mw_C
    rw [mu_n (by omega)]
  have eL : mw_C (mu R 107 cs c 107) (fr + L) = Int32.ofInt c := by
    unfold mw_C
    rw [← hcs, mu_e]
  have i126 := mw_is126 hc
  have iL := mw_isL hc
  refine ⟨fun m hm => ?_, ?_⟩
  · by_cases hz : m = L
    · subst hz
      rw [eL, rf_h_cg ag m (Nat.le_refl _)]
      refine ⟨fun z => h1 (i126.mp z), fun _ z => h2 (iL.mp z), fun z w => h3 (fun u => z (i126.mpr u)) ?_⟩
      have : ¬ (97 ≤ c ∧ c ≤ 122) := fun u => w (iL.mpr u)
      omega
    · exact rf_W_cg ag hW m (by omega)
  · rw [rf_h_s, eL, rf_h_cg ag L (Nat.le_refl _)]
    by_cases c1 : c = 126
    · rw [if_pos (i126.mpr c1), if_pos c1]
    · rw [if_neg (fun z => c1 (i126.mp z)), if_neg c1]
      by_cases c2 : 97 ≤ c ∧ c ≤ 122
      · rw [if_pos (iL.mpr c2), if_pos c2]
      · rw [if_neg (fun z => c2 (iL.mp z)), if_neg c2]
/-- the rows while rule r of the bank is read, from fr on -/
def mw_ZE (R0 R : Nat → Int → Int) (rb r : Int) (fr : Nat) : Prop := mw_J R ∧ mw_fr R0 R (1 - rb) ∧ (∀ r2, 0 ≤ r2 → r2 ≤ 1 → r2 ≠ r → R 104 (2 * rb + r2) = 1 → mw_ru R (2 * rb + r2) (560 * rb) fr) ∧ (∀ g, 0 ≤ g → g < R 88 rb → 1 ≤ R 97 (8 * rb + g)) ∧ R 101 (2 * rb + r) = fr ∧ 560 * rb ≤ fr
theorem mw_ZE.p92 {R0 R : Nat → Int → Int} {rb r : Int} {fr : Nat} (h : mw_ZE R0 R rb r fr) {i z : Int} (hz : 0 ≤ z ∧ z ≤ 60) : mw_ZE R0 (mu R 92 i z) rb r fr := ⟨h.1.p92 hz, h.2⟩
theorem mw_ZE.psh {R0 R : Nat → Int → Int} {rb r : Int} {fr : Nat} (h : mw_ZE R0 R rb r fr) {i w s : Int} : mw_ZE R0 (mu (mu R 109 i w) 110 i s) rb r fr := h
theorem mw_ru.up {R : Nat → Int → Int} {j lo up i c : Int} (h : mw_ru R j lo up) (hi : up ≤ i) : mw_ru (mu R 107 i c) j lo up := by
  obtain ⟨fr, L, h1, h2, h3, h4, h5⟩ := h
  refine ⟨fr, L, h1, h2, h3, h4, rf_W_cg (fun m hm => ?_) h5⟩
  show Int32.ofInt (mu R 107 i c 107 ((fr + m : Nat) : Int)) = Int32.ofInt (R 107 ((fr + m : Nat) : Int))
  rw [mu_n (by omega)]
theorem mw_ZE.emi {R0 R : Nat → Int → Int} {rb r : Int} {fr : Nat} (h : mw_ZE R0 R rb r fr) (hb : 0 ≤ rb ∧ rb ≤ 1) {i c n : Int} (hi : fr ≤ i ∧ i < 560 * rb + 560) (hc : 0 ≤ c ∧ c ≤ 127) : mw_ZE R0 (mu (mu R 107 i c) 108 i n) rb r fr := by
  obtain ⟨hJ, ⟨f1, f2, f3, f4⟩, h3, h4, h5, h6⟩ := h
  refine ⟨hJ, ⟨f1, f2, f3, fun j j1 j2 => ?_⟩, fun r2 g1 g2 g3 g4 => (show mw_ru (mu R 107 i c) (2 * rb + r2) (560 * rb) fr from (h3 r2 g1 g2 g3 g4).up hi.1), h4, h5, h6⟩
  show mu R 107 i c 107 j = R0 107 j
  rw [mu_n (by omega)]
  exact f4 j j1 j2
/-- what stands of the rule in the code -/
def mw_eL (R : Nat → Int → Int) (rb : Int) (fr : Nat) (cs : Int) : Prop := ∃ L : Nat, cs = ((fr + L : Nat) : Int) ∧ rf_W (mw_C (R 107)) fr L ∧ cs ≤ 560 * rb + 9 * R 92 rb
/-- a pile: b = 0 where a unit is wanted, 1 behind one -/
def mw_eQ (R : Nat → Int → Int) (rb : Int) (fr : Nat) (cs wi pi ui : Int) (b q L : Nat) : Prop :=
  pi = ((q + 1 : Nat) : Int) ∧ wi + mw_bc (R 109) q = q ∧ 0 ≤ wi ∧ wi ≤ 7 ∧ mw_eE (R 109) (R 110) q ∧ cs = ((fr + L : Nat) : Int) ∧ rf_W (mw_C (R 107)) fr L ∧ rf_h (mw_C (R 107)) fr L = mw_bc (R 109) q + b ∧ ((mw_bc (R 109) q + b : Nat) : Int) ≤ ui ∧ ui ≤ 30 ∧ (b = 0 → cs + mw_bc (R 109) q ≤ 560 * rb + 9 * R 92 rb) ∧ (b = 1 → cs + q + 1 ≤ 560 * rb + 9 * R 92 rb)
def mw_eS (R : Nat → Int → Int) (rb : Int) (fr : Nat) (cs wi pi ui : Int) (b : Nat) : Prop :=
  (pi = 0 ∧ 0 ≤ wi ∧ wi ≤ 7 ∧ 0 ≤ ui ∧ ui ≤ 30 ∧ mw_eL R rb fr cs) ∨ ∃ q L : Nat, mw_eQ R rb fr cs wi pi ui b q L
theorem mw_eS.out {R : Nat → Int → Int} {rb : Int} {fr : Nat} {cs wi pi ui : Int} {b : Nat} (h : mw_eS R rb fr cs wi pi ui b) (hb : b ≤ 1) : mw_eL R rb fr cs ∧ 0 ≤ wi ∧ wi ≤ 7 ∧ 0 ≤ pi ∧ pi ≤ 40 ∧ 0 ≤ ui ∧ ui ≤ 30 := by
  rcases h with ⟨h1, h2, h3, h4, h5, h6⟩ | ⟨q, L, h1, h2, h3, h4, h5, h6, h7, h8, h9, h10, h11, h12⟩
  · exact ⟨h6, h2, h3, by omega, by omega, h4, h5⟩
  · refine ⟨⟨L, h6, h7, ?_⟩, h3, h4, by omega, by omega, by omega, h10⟩
    rcases (show b = 0 ∨ b = 1 by omega) with hz | hz
    · have := h11 hz
      omega
    · have := h12 hz
      omega
section Moves
variable {R : Nat → Int → Int} {rb : Int} {fr q L : Nat} {cs wi pi ui : Int}
/-- an operand -/
theorem mw_eQ.opd (h : mw_eQ R rb fr cs wi pi ui 0 q L) (hu : ui < 30) {c n : Int} (hc : 97 ≤ c ∧ c ≤ 122) : mw_eQ (mu (mu (mu R 92 rb (R 92 rb + 1)) 107 cs c) 108 cs n) rb fr (cs + 1) wi pi (ui + 1) 1 q (L + 1) := by
  obtain ⟨h1, h2, h3, h4, h5, h6, h7, h8, h9, h10, h11, h12⟩ := h
  have e92 : mu (mu (mu R 92 rb (R 92 rb + 1)) 107 cs c) 108 cs n 92 rb = R 92 rb + 1 := (show mu R 92 rb (R 92 rb + 1) 92 rb = R 92 rb + 1 from mu_e)
  obtain ⟨g1, g2⟩ := mw_emits (R := R) (c := c) h6 h7 (by omega) (by omega) (by omega) (by omega)
  have h11 := h11 rfl
  have hq := mw_bc_le (R 109) q
  refine ⟨h1, h2, h3, h4, h5, by omega, g1, ?_, ?_, by omega, fun z => absurd z (by omega), fun _ => ?_⟩
  · refine g2.trans ?_
    rw [if_neg (by omega), if_pos hc, h8]
    rfl
  · show ((mw_bc (R 109) q + 1 : Nat) : Int) ≤ ui + 1
    omega
  · rw [e92]
    omega
/-- not, or a bracket -/
theorem mw_eQ.brk (h : mw_eQ R rb fr cs wi pi ui 0 q L) {d w s : Int} (hd : d = 0 ∨ d = 1) (hu : ui + d ≤ 30) (hw : w = 3 ∧ s = 126 ∨ w = 7) (h7 : wi < 7) : mw_eQ (mu (mu (mu R 92 rb (R 92 rb + d)) 109 pi w) 110 pi s) rb fr cs (wi + 1) (pi + 1) (ui + d) 0 (q + 1) L := by
  obtain ⟨h1, h2, h3, h4, h5, h6, h7, h8, h9, h10, h11, h12⟩ := h
  have e92 : mu (mu (mu R 92 rb (R 92 rb + d)) 109 pi w) 110 pi s 92 rb = R 92 rb + d := (show mu R 92 rb (R 92 rb + d) 92 rb = R 92 rb + d from mu_e)
  have hbc : mw_bc (mu (mu (mu R 92 rb (R 92 rb + d)) 109 pi w) 110 pi s 109) (q + 1) = mw_bc (R 109) q := by
    rw [mw_bc_push h1, if_pos (by omega)]
    rfl
  have h11 := h11 rfl
  refine ⟨by omega, by rw [hbc]; omega, by omega, by omega, mw_eE.push (R := mu R 92 rb (R 92 rb + d)) h5 h1 (by unfold mw_en; omega), h6, h7, by rw [hbc]; exact h8, by rw [hbc]; omega, by omega, fun _ => ?_, fun z => absurd z (by omega)⟩
  rw [hbc, e92]
  omega
/-- an operator behind a unit -/
theorem mw_eQ.opr (h : mw_eQ R rb fr cs wi pi ui 1 q L) {w s : Int} (hw : (w = 1 ∨ w = 2 ∨ w = 4 ∨ w = 5 ∨ w = 6) ∧ 0 ≤ s ∧ s ≤ 125 ∧ (s < 97 ∨ 122 < s)) : mw_eQ (mu (mu R 109 pi w) 110 pi s) rb fr cs wi (pi + 1) ui 0 (q + 1) L := by
  obtain ⟨h1, h2, h3, h4, h5, h6, h7, h8, h9, h10, h11, h12⟩ := h
  have hbc : mw_bc (mu (mu R 109 pi w) 110 pi s 109) (q + 1) = mw_bc (R 109) q + 1 := by rw [mw_bc_push h1, if_neg (by omega)]
  have h12 := h12 rfl
  have hq := mw_bc_le (R 109) q
  refine ⟨by omega, by rw [hbc]; omega, h3, h4, h5.push h1 (by unfold mw_en; omega), h6, h7, by rw [hbc]; exact h8, by rw [hbc]; exact h9, h10, fun _ => ?_, fun z => absurd z (by omega)⟩
  rw [hbc]
  show cs + ((mw_bc (R 109) q + 1 : Nat) : Int) ≤ 560 * rb + 9 * R 92 rb
  omega
/-- an entry taken off the pile into the code -/
theorem mw_eQ.pop (h : mw_eQ R rb fr cs wi pi ui 1 (q + 1) L) (h6 : R 109 (pi - 1) ≤ 6) {n : Int} : 0 ≤ R 110 (pi - 1) ∧ R 110 (pi - 1) ≤ 127 ∧ mw_eQ (mu (mu R 107 cs (R 110 (pi - 1))) 108 cs n) rb fr (cs + 1) (if R 109 (pi - 1) = 3 then wi - 1 else wi) (pi - 1) ui 1 q (L + 1) := by
  obtain ⟨h1, h2, h3, h4, h5, h6', h7, h8, h9, h10, h11, h12⟩ := h
  have hp : pi - 1 = ((q + 1 : Nat) : Int) := by omega
  have he := h5.2 (q + 1) (by omega) (Nat.le_refl _)
  rw [← hp] at he
  unfold mw_en at he
  have hbs := mw_bc_s (R 109) q
  rw [← hp] at hbs
  have h12 := h12 rfl
  have hq := mw_bc_le (R 109) q
  refine ⟨by omega, by omega, ?_⟩
  by_cases c3 : R 109 (pi - 1) = 3
  · rw [if_pos (Or.inl c3)] at hbs
    obtain ⟨g1, g2⟩ := mw_emits (R := R) (c := R 110 (pi - 1)) h6' h7 (by omega) (by omega) (by omega) (by omega)
    rw [if_pos c3]
    refine ⟨by omega, ?_, by omega, by omega, h5.mono (by omega), by omega, g1, g2.trans ?_, ?_, h10, fun z => absurd z (by omega), fun _ => ?_⟩
    · show wi - 1 + mw_bc (R 109) q = q
      omega
    · rw [if_pos (by omega)]
      show _ = mw_bc (R 109) q + 1
      omega
    · show ((mw_bc (R 109) q + 1 : Nat) : Int) ≤ ui
      omega
    · show cs + 1 + q + 1 ≤ 560 * rb + 9 * R 92 rb
      omega
  · rw [if_neg (by omega)] at hbs
    obtain ⟨g1, g2⟩ := mw_emits (R := R) (c := R 110 (pi - 1)) h6' h7 (by omega) (by omega) (by omega) (by omega)
    rw [if_neg c3]
    refine ⟨by omega, ?_, by omega, by omega, h5.mono (by omega), by omega, g1, g2.trans ?_, ?_, h10, fun z => absurd z (by omega), fun _ => ?_⟩
    · show wi + mw_bc (R 109) q = q
      omega
    · rw [if_neg (by omega), if_neg (by omega)]
      show _ = mw_bc (R 109) q + 1
      omega
    · show ((mw_bc (R 109) q + 1 : Nat) : Int) ≤ ui
      omega
    · show cs + 1 + q + 1 ≤ 560 * rb + 9 * R 92 rb
      omega
/-- a bracket closed -/
theorem mw_eQ.cls (h : mw_eQ R rb fr cs wi pi ui 1 (q + 1) L) (h7 : R 109 (pi - 1) = 7) : mw_eQ R rb fr cs (wi - 1) (pi - 1) ui 1 q L := by
  obtain ⟨h1, h2, h3, h4, h5, h6', h7', h8, h9, h10, h11, h12⟩ := h
  have hp : pi - 1 = ((q + 1 : Nat) : Int) := by omega
  have hbs := mw_bc_s (R 109) q
  rw [← hp, if_pos (Or.inr h7)] at hbs
  have h12 := h12 rfl
  have hq := mw_bc_le (R 109) q
  exact ⟨by omega, by omega, by omega, by omega, h5.mono (by omega), h6', h7', by omega, by omega, h10, fun z => absurd z (by omega), fun _ => by omega⟩
end Moves
