/-! SYMBOLIC RUNS: the second engine's steps over exact ints that are terms, with any predicate of the good states; what is to be shown of a method by hand is then reckoning alone -/
noncomputable def sy_K (P : Prop) : Bool := @decide P (Classical.propDecidable P)
theorem sy_K_i {P : Prop} (h : P) : sy_K P = true := @decide_eq_true P (Classical.propDecidable P) h
theorem sy_K_e {P : Prop} (h : sy_K P = true) : P := @of_decide_eq_true P (Classical.propDecidable P) h
def sy_I (x : Int32) : ev_V := (0, ev_u x, 0)
theorem sy_el_t {b k1 k2 : Bool} (h : b = true) : e2_el b k1 k2 = k1 := by subst h; rfl
theorem sy_el_f {b k1 k2 : Bool} (h : b = false) : e2_el b k1 k2 = k2 := by subst h; rfl
theorem sy_if_t {b k : Bool} (h : b = true) : e2_if b k = k := by subst h; rfl
theorem sy_ble {a b : Nat} (h : a ≤ b) : Nat.ble a b = true := Nat.ble_eq_true_of_le h
theorem sy_blt {a b : Nat} (h : a < b) : Nat.blt a b = true := Nat.ble_eq_true_of_le h
theorem sy_ble_f {a b : Nat} (h : b < a) : Nat.ble a b = false := Bool.eq_false_iff.mpr fun z => by have := Nat.le_of_ble_eq_true z; omega
theorem sy_blt_f {a b : Nat} (h : b ≤ a) : Nat.blt a b = false := Bool.eq_false_iff.mpr fun z => by have : a + 1 ≤ b := Nat.le_of_ble_eq_true z; omega
theorem sy_key (x : Int32) : (ev_u x + 2147483648) % 4294967296 = ev_key x := by rw [← ev_key_of, ev_iu]
theorem sy_bk (x : Int32) : ev_i (ev_key x + 2147483648) = x := by
  apply ev_key_eqI.mpr
  rw [ev_key_of]
  have := ev_key_lt x
  omega
theorem sy_mod (a L M : Nat) : Nat.mod (Nat.add a L) M = (a + L) % M := rfl
theorem sy_keyN (x : Int32) : Nat.mod (Nat.add (ev_u x) 2147483648) 4294967296 = ev_key x := (sy_mod _ _ _).trans (sy_key x)
theorem sy_addN (a L : Nat) : ev_i (Nat.add a L) = ev_i (a + L) := rfl
theorem sy_bkN (x : Int32) : ev_i (Nat.add (ev_key x) 2147483648) = x := (sy_addN _ _).trans (sy_bk x)
theorem sy_1c {a : ev_V} {r : List ev_V} {k : ev_V → List ev_V → Bool} : e2_1 (a :: r) k = k a r := rfl
theorem sy_2c {a b : ev_V} {r : List ev_V} {k : ev_V → ev_V → List ev_V → Bool} : e2_2 (a :: b :: r) k = k a b r := rfl
theorem sy_3c {a b c : ev_V} {r : List ev_V} {k : ev_V → ev_V → ev_V → List ev_V → Bool} : e2_3 (a :: b :: c :: r) k = k a b c r := rfl
theorem sy_pI {x : Int32} {k : Nat → Nat → Nat → Bool} : e2_p (sy_I x) k = k 0 (ev_u x) 0 := rfl
theorem sy_rng (E : e2_E) (x : Int32) (k : Nat → Nat → Bool) : e2_rng E (sy_I x) k = k (ev_key x) (ev_key x) := by
  unfold e2_rng
  rw [sy_pI, sy_el_t (show Nat.beq 0 0 = true from rfl), ev_fN_eq, sy_keyN]
theorem sy_bin (o : Int32 → Int32 → Int32) (tr : ev_V → ev_V → Nat → Nat → Nat → Nat → ev_V) (E : e2_E) (x y : Int32) (k : ev_V → Bool) : e2_bin o tr E (sy_I x) (sy_I y) k = k (sy_I (o x y)) := by
  unfold e2_bin
  rw [sy_rng, sy_rng, sy_el_t (Nat.beq_refl _), sy_el_t (Nat.beq_refl _), ev_fN_eq]
  rw [sy_bkN, sy_bkN]
  rfl
theorem sy_cmp_t {c : ClassFile.Cond} {E : e2_E} {x y : Int32} {K1 K0 : e2_E → Bool} (h : ev_holds c x y) : e2_cmp c E (sy_I x) (sy_I y) K1 K0 = K1 E := by
  unfold e2_cmp
  rw [sy_rng, sy_rng]
  cases c
  · have h : x = y := h
    subst h
    show e2_de _ _ _ _ _ _ _ = _
    unfold e2_de
    rw [sy_el_f (sy_blt_f (Nat.le_refl _)), sy_el_f (sy_blt_f (Nat.le_refl _)), sy_el_t (Nat.beq_refl _), sy_el_t (Nat.beq_refl _)]
  · have h : ¬ x = y := h
    have hk : ev_key x ≠ ev_key y := fun z => h (ev_key_eqI.mpr z)
    show e2_de _ _ _ _ _ _ _ = _
    unfold e2_de
    rcases Nat.lt_or_gt_of_ne hk with z | z
    · rw [sy_el_t (sy_blt z)]
    · rw [sy_el_f (sy_blt_f (Nat.le_of_lt z)), sy_el_t (sy_blt z)]
  · have h := ev_key_ltI.mp (show x < y from h)
    show e2_dl _ _ _ _ _ _ _ = _
    unfold e2_dl
    rw [sy_el_t (sy_blt h)]
  · have h := ev_key_leI.mp (show y ≤ x from h)
    show e2_dl _ _ _ _ _ _ _ = _
    unfold e2_dl
    rw [sy_el_f (sy_blt_f h), sy_el_t (sy_ble h)]
  · have h := ev_key_ltI.mp (show y < x from h)
    show e2_dl _ _ _ _ _ _ _ = _
    unfold e2_dl
    rw [sy_el_t (sy_blt h)]
  · have h := ev_key_leI.mp (show x ≤ y from h)
    show e2_dl _ _ _ _ _ _ _ = _
    unfold e2_dl
    rw [sy_el_f (sy_blt_f h), sy_el_t (sy_ble h)]
theorem sy_cmp_f {c : ClassFile.Cond} {E : e2_E} {x y : Int32} {K1 K0 : e2_E → Bool} (h : ¬ ev_holds c x y) : e2_cmp c E (sy_I x) (sy_I y) K1 K0 = K0 E := by
  unfold e2_cmp
  rw [sy_rng, sy_rng]
  cases c
  · have h : ¬ x = y := h
    have hk : ev_key x ≠ ev_key y := fun z => h (ev_key_eqI.mpr z)
    show e2_de _ _ _ _ _ _ _ = _
    unfold e2_de
    rcases Nat.lt_or_gt_of_ne hk with z | z
    · rw [sy_el_t (sy_blt z)]
    · rw [sy_el_f (sy_blt_f (Nat.le_of_lt z)), sy_el_t (sy_blt z)]
  · have h : x = y := Classical.byContradiction h
    subst h
    show e2_de _ _ _ _ _ _ _ = _
    unfold e2_de
    rw [sy_el_f (sy_blt_f (Nat.le_refl _)), sy_el_f (sy_blt_f (Nat.le_refl _)), sy_el_t (Nat.beq_refl _), sy_el_t (Nat.beq_refl _)]
  · have h : ¬ ev_key x < ev_key y := fun z => h (ev_key_ltI.mpr z)
    show e2_dl _ _ _ _ _ _ _ = _
    unfold e2_dl
    rw [sy_el_f (sy_blt_f (by omega)), sy_el_t (sy_ble (by omega))]
  · have h : ¬ ev_key y ≤ ev_key x := fun z => h (ev_key_leI.mpr z)
    show e2_dl _ _ _ _ _ _ _ = _
    unfold e2_dl
    rw [sy_el_t (sy_blt (by omega))]
  · have h : ¬ ev_key y < ev_key x := fun z => h (ev_key_ltI.mpr z)
    show e2_dl _ _ _ _ _ _ _ = _
    unfold e2_dl
    rw [sy_el_f (sy_blt_f (by omega)), sy_el_t (sy_ble (by omega))]
  · have h : ¬ ev_key x ≤ ev_key y := fun z => h (ev_key_leI.mpr z)
    show e2_dl _ _ _ _ _ _ _ = _
    unfold e2_dl
    rw [sy_el_t (sy_blt (by omega))]
theorem sy_get {α : Type} : ∀ {l : List α} {n : Nat} {a : α} {k : α → Bool}, l[n]? = some a → e2_get l n k = k a := by
  intro l
  induction l with
  | nil => intro n a k h; simp at h
  | cons x xs ih =>
    intro n a k h
    cases n with
    | zero => cases h; rfl
    | succ m => exact ih (n := m) (k := k) (by simpa using h)
theorem sy_set {β : Type} : ∀ {l : List β} {n : Nat} {v : β} {k : List β → Bool}, n < l.length → e2_setK l n v k = k (l.set n v) := by
  intro l
  induction l with
  | nil => intro n v k h; simp at h
  | cons x xs ih =>
    intro n v k h
    cases n with
    | zero => rfl
    | succ m => exact ih (n := m) (k := fun ys => k (x :: ys)) (by simpa using h)
theorem sy_nl {al : List ev_V} {i : Nat} {k : Bool} (h : e2_nl al i true = true) : e2_nl al i k = k := by
  cases i with
  | zero => rfl
  | succ m =>
    obtain ⟨a, h1, h2⟩ := e2_get_t (show e2_get al m (fun v => e2_if (!(e2_isL v.1)) true) = true from h)
    show e2_get al m (fun v => e2_if (!(e2_isL v.1)) k) = k
    rw [sy_get h1, sy_if_t (e2_if_t h2).1]
theorem sy_cell {h : ev_H} {a b tag : Nat} {l : List ev_V} {k : Nat → Nat → List ev_V → Bool} (ha : a < 133) (hc : ev_hg h a = (tag, l)) : e2_cell h (2, a, b) k = k a tag l := by
  unfold e2_cell e2_p
  dsimp only
  rw [sy_if_t (show Nat.beq 2 2 = true from rfl), sy_if_t (sy_blt ha), ev_tget_k, show ev_tget 8 h a id = (tag, l) from hc]
theorem sy_ix {E : e2_E} {x : Int32} {i : Nat} {k : Nat → Nat → Bool} (hi : i < 65536) (hx : x = ev_i i) : e2_ix E (sy_I x) k = k i i := by
  have hk : ev_key x = 2147483648 + i := by rw [hx, ev_key_of]; omega
  unfold e2_ix
  rw [sy_rng, hk, sy_if_t (sy_ble (by omega)), sy_if_t (sy_blt (by omega)), ev_fN_eq, ev_fN_eq]
  have : Nat.sub (2147483648 + i) 2147483648 = i := by show 2147483648 + i - 2147483648 = i; omega
  rw [this]
-- rows of exact ints
def sy_R (n : Nat) (f : Nat → Int32) : List ev_V := (List.range n).map fun i => sy_I (f i)
def sy_up (f : Nat → Int32) (i : Nat) (x : Int32) : Nat → Int32 := fun j => if j = i then x else f j
theorem sy_R_len {n : Nat} {f : Nat → Int32} : (sy_R n f).length = n := by simp [sy_R]
theorem sy_R_get {n : Nat} {f : Nat → Int32} {i : Nat} (hi : i < n) : (sy_R n f)[i]? = some (sy_I (f i)) := by simp [sy_R, hi]
theorem sy_R_set {n : Nat} {f : Nat → Int32} {i : Nat} {x : Int32} : (sy_R n f).set i (sy_I x) = sy_R n (sy_up f i x) := by
  apply List.ext_getElem?
  intro j
  rw [List.getElem?_set, sy_R_len]
  by_cases hji : i = j
  · subst hji
    rw [if_pos rfl]
    by_cases hi : i < n
    · rw [if_pos hi, sy_R_get hi, sy_up, if_pos rfl]
    · rw [if_neg hi, List.getElem?_eq_none (by rw [sy_R_len]; omega)]
  · rw [if_neg hji]
    by_cases hj : j < n
    · rw [sy_R_get hj, sy_R_get hj, sy_up, if_neg (fun z => hji z.symm)]
    · rw [List.getElem?_eq_none (by rw [sy_R_len]; omega), List.getElem?_eq_none (by rw [sy_R_len]; omega)]
-- good states
abbrev sy_P : Type := Nat → List ev_V → List ev_V → e2_E → ev_H → Prop
def sy_at (X : List e2_X) (pc : Nat) (op : e2_Op) (q : Nat) : Prop := ∃ (o : e2_Op) (R : List e2_X), e2_seek X pc = (pc, op) :: (q, o) :: R
def sy_ar (X : List e2_X) (pc : Nat) (op : e2_Op) : Prop := ∃ (R : List e2_X), e2_seek X pc = (pc, op) :: R
def sy_St (call : e2_Call) (F : e2_F) (X : List e2_X) (G : sy_P) : Prop :=
  (∀ (pc q : Nat) (op : e2_Op), sy_at X pc op q → ∀ (Kn : e2_S) (Kj : Nat → e2_S) (al st : List ev_V) (E : e2_E) (h : ev_H), op call F Kn Kj al st E h = true → (∀ al st E h, Kn al st E h = true → G q al st E h) → (∀ t al st E h, Kj t al st E h = true → G t al st E h) → G pc al st E h) ∧
  (∀ (pc : Nat) (op : e2_Op), sy_ar X pc op → ∀ (Kj : Nat → e2_S) (al st : List ev_V) (E : e2_E) (h : ev_H), op call F (fun _ _ _ _ => false) Kj al st E h = true → (∀ t al st E h, Kj t al st E h = true → G t al st E h) → G pc al st E h)
noncomputable def sy_call (l : Launch) (d : Nat) : e2_Call := fun k as E h K => sy_K (∀ M, e2_MT[k]? = some M → e2_Met l M d as E h K)
theorem sy_met {l : Launch} {k nL d : Nat} {C : List ev_I} {X : List e2_X} {M : ev_M} {as : List ev_V} {E : e2_E} {h : ev_H} {F : e2_F} (mk : List Nat) (hen : en_ok) (hm : e2_mOk k nL C) (hX : X = (e2_mark mk C).map e2_x) (hM : e2_MT[k]? = some M) (hlen : (e2_exp as).length ≤ nL) (hg : ∀ G : sy_P, sy_St (sy_call l d) F X G → G 0 (e2_al nL as) [] E h) : e2_Met l M (d + 1) as E h F := by
  obtain ⟨M', hM', hn, hpl, hC⟩ := hm
  rw [hM] at hM'
  cases hM'
  subst hn
  subst hX
  refine e2_Met_ofG hpl hlen fun p e R s m args below meth c Q D cA A ads r0 ha => ?_
  have hcall : ∀ k M, e2_MT[k]? = some M → ∀ as E h K, sy_call l d k as E h K = true → e2_Met l M d as E h K := fun k M hM as E h K hk => sy_K_e hk M hM
  refine hg (e2_gdM M p l e R s m args below meth c Q D cA A ads r0) ⟨?_, ?_⟩
  · intro pc q op hat Kn Kj al st E h hop hn hj
    obtain ⟨o, R', hs⟩ := hat
    obtain ⟨L, e1, e2, e3⟩ := e2_seek_ok pc _ (hC mk)
    rw [e1] at hs
    cases L with
    | nil => cases hs
    | cons x L1 =>
      cases L1 with
      | nil => cases (List.cons.inj hs).2
      | cons y L2 =>
        have h1 : e2_x x = (pc, op) := (List.cons.inj hs).1
        have h2 : e2_x y = (q, o) := (List.cons.inj (List.cons.inj hs).2).1
        have hp : x.1.1 = pc := congrArg Prod.fst h1
        have ho : e2_op x = op := congrArg Prod.snd h1
        have hq : y.1.1 = q := congrArg Prod.fst h2
        have hsd := e2_step_ok hen ha hcall e2
        have hl := e2.2.2.2.1 y L2 rfl
        rw [ho, hp] at hsd
        refine hsd Kn Kj al st E h hop ?_ hj
        intro al st E h hk
        rw [show pc + x.1.2.2.1 = q by omega]
        exact hn al st E h hk
  · intro pc op hat Kj al st E h hop hj
    obtain ⟨R', hs⟩ := hat
    obtain ⟨L, e1, e2, e3⟩ := e2_seek_ok pc _ (hC mk)
    rw [e1] at hs
    cases L with
    | nil => cases hs
    | cons x L1 =>
      have h1 : e2_x x = (pc, op) := (List.cons.inj hs).1
      have hp : x.1.1 = pc := congrArg Prod.fst h1
      have ho : e2_op x = op := congrArg Prod.snd h1
      have hsd := e2_step_ok hen ha hcall e2
      rw [ho, hp] at hsd
      exact hsd (fun _ _ _ _ => false) Kj al st E h hop (fun _ _ _ _ z => by cases z) hj
/-- a method's contract by hand: from this state on it ends in one of P, at every depth from D on -/
def sy_C (l : Launch) (D k : Nat) (as : List ev_V) (E : e2_E) (h : ev_H) (P : ev_V → e2_E → ev_H → Prop) : Prop := ∀ d, D ≤ d → ∀ K : e2_F, (∀ v E h, P v E h → K v E h = true) → ∀ M, e2_MT[k]? = some M → e2_Met l M d as E h K
theorem sy_C.mono {l : Launch} {D D' k : Nat} {as : List ev_V} {E : e2_E} {h : ev_H} {P P' : ev_V → e2_E → ev_H → Prop} (hc : sy_C l D k as E h P) (hD : D ≤ D') (hP : ∀ v E h, P v E h → P' v E h) : sy_C l D' k as E h P' := fun d hd K hK => hc d (Nat.le_trans hD hd) K fun v E h hp => hK v E h (hP v E h hp)
theorem sy_con {l : Launch} {k nL D : Nat} {C : List ev_I} {X : List e2_X} {as : List ev_V} {E : e2_E} {h : ev_H} {P : ev_V → e2_E → ev_H → Prop} (mk : List Nat) (hen : en_ok) (hm : e2_mOk k nL C) (hX : X = (e2_mark mk C).map e2_x) (hlen : (e2_exp as).length ≤ nL) (hg : ∀ (d : Nat) (F : e2_F) (G : sy_P), D ≤ d → (∀ v E h, P v E h → F v E h = true) → sy_St (sy_call l d) F X G → G 0 (e2_al nL as) [] E h) : sy_C l (D + 1) k as E h P := by
  intro d hd K hK M hM
  cases d with
  | zero => omega
  | succ d => exact sy_met mk hen hm hX hM hlen fun G hG => hg d K G (by omega) hK hG
section Sym
variable {call : e2_Call} {F : e2_F} {X : List e2_X} {G : sy_P} {al al' st r : List ev_V} {E : e2_E} {h : ev_H} {pc q t : Nat}
theorem sy_go (hG : sy_St call F X G) {op : e2_Op} (ha : sy_at X pc op q) (hop : op call F (fun al st E h => sy_K (G q al st E h)) (fun t al st E h => sy_K (G t al st E h)) al st E h = true) : G pc al st E h := hG.1 pc q op ha _ _ al st E h hop (fun _ _ _ _ k => sy_K_e k) (fun _ _ _ _ _ k => sy_K_e k)
theorem sy_gr (hG : sy_St call F X G) {op : e2_Op} (ha : sy_ar X pc op) (hop : op call F (fun _ _ _ _ => false) (fun t al st E h => sy_K (G t al st E h)) al st E h = true) : G pc al st E h := hG.2 pc op ha _ al st E h hop (fun _ _ _ _ _ k => sy_K_e k)
theorem sy_push (hG : sy_St call F X G) {n : Nat} {y : Int32} (ha : sy_at X pc (o2_push (0, n, 0)) q) (hy : n = ev_u y) (hg : G q al (sy_I y :: st) E h) : G pc al st E h := by
  subst hy
  exact sy_go hG ha (sy_K_i hg)
theorem sy_iload (hG : sy_St call F X G) {i : Nat} {x : Int32} (ha : sy_at X pc (o2_iload i) q) (hx : al[i]? = some (sy_I x)) (hg : G q al (sy_I x :: st) E h) : G pc al st E h := by
  refine sy_go hG ha ?_
  show e2_get al i _ = true
  rw [sy_get hx]
  exact sy_K_i hg
theorem sy_aload (hG : sy_St call F X G) {i a b : Nat} (ha : sy_at X pc (o2_aload i) q) (hx : al[i]? = some (2, a, b)) (hg : G q al ((2, a, b) :: st) E h) : G pc al st E h := by
  refine sy_go hG ha ?_
  show e2_get al i _ = true
  rw [sy_get hx]
  exact sy_K_i hg
theorem sy_istore (hG : sy_St call F X G) {i : Nat} {x : Int32} (ha : sy_at X pc (o2_istore i) q) (hn : e2_nl al i true = true) (hi : i < al.length) (hl : al.set i (sy_I x) = al') (hg : G q al' r E h) : G pc al (sy_I x :: r) E h := by
  refine sy_go hG ha ?_
  show e2_nl al i (e2_setK al i (sy_I x) _) = true
  rw [sy_nl hn, sy_set hi, hl]
  exact sy_K_i hg
theorem sy_iinc (hG : sy_St call F X G) {i n : Nat} {x y : Int32} (ha : sy_at X pc (o2_iinc i n) q) (hy : n = ev_u y) (hx : al[i]? = some (sy_I x)) (hn : e2_nl al i true = true) (hl : al.set i (sy_I (x + y)) = al') (hg : G q al' st E h) : G pc al st E h := by
  subst hy
  refine sy_go hG ha ?_
  unfold o2_iinc
  rw [sy_get hx, show ((0, ev_u y, 0) : ev_V) = sy_I y from rfl, sy_bin, sy_nl hn, sy_set (List.getElem?_eq_some_iff.mp hx).1, show eb_add x y = x + y from rfl, hl]
  exact sy_K_i hg
theorem sy_bin2 (hG : sy_St call F X G) {o : Int32 → Int32 → Int32} {tr : ev_V → ev_V → Nat → Nat → Nat → Nat → ev_V} {x y : Int32} (ha : sy_at X pc (o2_bin o tr) q) (hg : G q al (sy_I (o x y) :: r) E h) : G pc al (sy_I y :: sy_I x :: r) E h := by
  refine sy_go hG ha ?_
  unfold o2_bin
  rw [sy_2c, sy_bin]
  exact sy_K_i hg
theorem sy_mm (hG : sy_St call F X G) {o : Int32 → Int32 → Int32} {tr : ev_V → ev_V → Nat → Nat → Nat → Nat → ev_V} {x y : Int32} (ha : sy_at X pc (o2_mm o tr) q) (hr : e2_small r = true) (hg : G q al (sy_I (o x y) :: r) E h) : G pc al (sy_I y :: sy_I x :: r) E h := by
  refine sy_go hG ha ?_
  unfold o2_mm
  rw [sy_2c, sy_if_t hr, sy_bin]
  exact sy_K_i hg
theorem sy_un (hG : sy_St call F X G) {o : Int32 → Int32} {tr : Nat → Nat → ev_V} {x : Int32} (ha : sy_at X pc (o2_un o tr) q) (hg : G q al (sy_I (o x) :: r) E h) : G pc al (sy_I x :: r) E h := by
  refine sy_go hG ha ?_
  unfold o2_un
  rw [sy_1c]
  unfold e2_un
  rw [sy_rng, sy_el_t (Nat.beq_refl _), ev_fN_eq, sy_bkN]
  exact sy_K_i hg
theorem sy_dup (hG : sy_St call F X G) {v : ev_V} (ha : sy_at X pc o2_dup q) (hv : e2_isL v.1 = false) (hg : G q al (v :: v :: r) E h) : G pc al (v :: r) E h := by
  refine sy_go hG ha ?_
  show e2_if (!(e2_isL v.1)) _ = true
  rw [sy_if_t (by rw [hv]; rfl)]
  exact sy_K_i hg
theorem sy_dup2 (hG : sy_St call F X G) {v w : ev_V} (ha : sy_at X pc o2_dup2 q) (hv : e2_isL v.1 = false) (hw : e2_isL w.1 = false) (hg : G q al (v :: w :: v :: w :: r) E h) : G pc al (v :: w :: r) E h := by
  refine sy_go hG ha ?_
  show e2_if (!(e2_isL v.1)) (e2_if (!(e2_isL w.1)) _) = true
  rw [sy_if_t (by rw [hv]; rfl), sy_if_t (by rw [hw]; rfl)]
  exact sy_K_i hg
theorem sy_pop (hG : sy_St call F X G) {v : ev_V} (ha : sy_at X pc o2_pop q) (hv : e2_isL v.1 = false) (hg : G q al r E h) : G pc al (v :: r) E h := by
  refine sy_go hG ha ?_
  show e2_if (!(e2_isL v.1)) _ = true
  rw [sy_if_t (by rw [hv]; rfl)]
  exact sy_K_i hg
theorem sy_icmp (hG : sy_St call F X G) {c : ClassFile.Cond} {x y : Int32} (ha : sy_at X pc (o2_icmp c t) q) (h1 : ev_holds c x y → G t al r E h) (h0 : ¬ ev_holds c x y → G q al r E h) : G pc al (sy_I y :: sy_I x :: r) E h := by
  refine sy_go hG ha ?_
  unfold o2_icmp
  rw [sy_2c]
  by_cases hz : ev_holds c x y
  · rw [sy_cmp_t hz]
    exact sy_K_i (h1 hz)
  · rw [sy_cmp_f hz]
    exact sy_K_i (h0 hz)
theorem sy_I0 : ((0, 0, 0) : ev_V) = sy_I 0 := rfl
theorem sy_ifc (hG : sy_St call F X G) {c : ClassFile.Cond} {x : Int32} (ha : sy_at X pc (o2_ifc c t) q) (h1 : ev_holds c x 0 → G t al r E h) (h0 : ¬ ev_holds c x 0 → G q al r E h) : G pc al (sy_I x :: r) E h := by
  refine sy_go hG ha ?_
  unfold o2_ifc
  rw [sy_1c, sy_pI, sy_el_f (show Nat.beq 0 14 = false from rfl), sy_I0]
  by_cases hz : ev_holds c x 0
  · rw [sy_cmp_t hz]
    exact sy_K_i (h1 hz)
  · rw [sy_cmp_f hz]
    exact sy_K_i (h0 hz)
theorem sy_goto (hG : sy_St call F X G) (ha : sy_ar X pc (o2_goto t)) (hg : G t al st E h) : G pc al st E h := sy_gr hG ha (sy_K_i hg)
theorem sy_getf (hG : sy_St call F X G) {ci k a b : Nat} {l : List ev_V} {v : ev_V} (ha : sy_at X pc (o2_getf ci k) q) (h133 : a < 133) (hc : ev_hg h a = (ci, l)) (hv : l[k]? = some v) (ht : v.1 = 0 ∨ v.1 = 2) (hg : G q al (v :: r) E h) : G pc al ((2, a, b) :: r) E h := by
  refine sy_go hG ha ?_
  unfold o2_getf
  rw [sy_1c, sy_cell h133 hc, sy_if_t (Nat.beq_refl _), sy_get hv]
  obtain ⟨tg, x, y⟩ := v
  rcases ht with ht | ht <;> have ht : tg = _ := ht <;> subst ht <;> exact sy_K_i hg
theorem sy_putf (hG : sy_St call F X G) {ci k kd a b : Nat} {l : List ev_V} {x : Int32} (ha : sy_at X pc (o2_putf ci k kd) q) (h133 : a < 133) (hc : ev_hg h a = (ci, l)) (hk : k < l.length) (hkd : kd = 0 ∨ kd = 1 ∧ (x = 0 ∨ x = 1)) (hg : G q al r E (ev_hs h a (ci, l.set k (sy_I x)))) : G pc al (sy_I x :: (2, a, b) :: r) E h := by
  refine sy_go hG ha ?_
  unfold o2_putf
  rw [sy_2c, sy_cell h133 hc, sy_if_t (Nat.beq_refl _)]
  have hp : e2_put h a ci l k (sy_I x) (fun h' => sy_K (G q al r E h')) = true := by
    unfold e2_put
    rw [sy_set hk, ev_tset_k]
    exact sy_K_i hg
  rcases hkd with rfl | ⟨rfl, hx⟩
  · exact hp
  · have hk : ev_key x = 2147483648 ∨ ev_key x = 2147483649 := by rcases hx with rfl | rfl <;> decide +kernel
    unfold e2_kd
    rw [sy_rng, sy_if_t (sy_ble (by omega)), sy_if_t (sy_ble (by omega))]
    exact hp
theorem sy_ald (hG : sy_St call F X G) {a b n i : Nat} {f : Nat → Int32} {x : Int32} (ha : sy_at X pc (o2_ald 50 50) q) (h133 : a < 133) (hc : ev_hg h a = (50, sy_R n f)) (hn : n ≤ 65536) (hi : i < n) (hx : x = ev_i i) (hg : G q al (sy_I (f i) :: r) E h) : G pc al (sy_I x :: (2, a, b) :: r) E h := by
  refine sy_go hG ha ?_
  unfold o2_ald
  rw [sy_el_t (show Nat.beq 50 50 = true from rfl)]
  rw [sy_2c, sy_cell h133 hc, sy_el_f (show Nat.beq 50 58 = false from rfl), sy_el_f (show Nat.beq 50 57 = false from rfl)]
  unfold o2_ald0
  rw [sy_2c, sy_cell h133 hc, sy_ix (by omega) hx, sy_el_t (show (Nat.ble 50 50 && Nat.ble 50 50) = true from rfl), sy_el_t (Nat.beq_refl _), sy_get (sy_R_get hi)]
  exact sy_K_i hg
theorem sy_iast (hG : sy_St call F X G) {a b n i : Nat} {f : Nat → Int32} {x y : Int32} (ha : sy_at X pc o2_iast q) (h133 : a < 133) (hc : ev_hg h a = (50, sy_R n f)) (hn : n ≤ 65536) (hi : i < n) (hx : x = ev_i i) (hg : G q al r E (ev_hs h a (50, sy_R n (sy_up f i y)))) : G pc al (sy_I y :: sy_I x :: (2, a, b) :: r) E h := by
  refine sy_go hG ha ?_
  unfold o2_iast
  rw [sy_3c, sy_cell h133 hc, sy_if_t (show e2_isI (sy_I y).1 = true from rfl), sy_el_f (show e2_sp h a 50 (sy_I x) (sy_I y) = false from rfl)]
  unfold e2_ast
  rw [sy_ix (by omega) hx, sy_el_t (show Nat.beq 50 50 = true from rfl), sy_el_t (Nat.beq_refl _)]
  unfold e2_put
  rw [sy_set (by rw [sy_R_len]; exact hi), ev_tset_k, sy_R_set]
  exact sy_K_i hg
theorem sy_iret (hG : sy_St call F X G) {kd : Nat} {x : Int32} (ha : sy_ar X pc (o2_iret kd)) (hkd : kd = 0 ∨ kd = 1 ∧ (x = 0 ∨ x = 1)) (hF : F (sy_I x) E h = true) : G pc al [sy_I x] E h := by
  refine sy_gr hG ha ?_
  rcases hkd with rfl | ⟨rfl, hx⟩
  · exact hF
  · have hk : ev_key x = 2147483648 ∨ ev_key x = 2147483649 := by rcases hx with rfl | rfl <;> decide +kernel
    unfold o2_iret
    rw [sy_1c]
    unfold e2_kd
    rw [sy_rng, sy_if_t (sy_ble (by omega)), sy_if_t (sy_ble (by omega))]
    exact hF
theorem sy_vret (hG : sy_St call F X G) (ha : sy_ar X pc o2_vret) (hF : F (9, 0, 0) E h = true) : G pc al [] E h := sy_gr hG ha hF
end Sym
theorem sy_cut {k : List ev_V → List ev_V → Bool} : ∀ {qs : List ev_V} {acc r : List ev_V}, e2_cut qs.length acc (qs ++ r) k = k (qs.reverse ++ acc) r := by
  intro qs
  induction qs with
  | nil => intro acc r; rfl
  | cons v qs ih =>
    intro acc r
    have := ih (acc := v :: acc) (r := r)
    rw [List.reverse_cons, List.append_assoc]
    exact this
section SymCall
variable {l : Launch} {d D : Nat} {F : e2_F} {X : List e2_X} {G : sy_P} {al st r : List ev_V} {E : e2_E} {h : ev_H} {pc q : Nat}
/-- what comes behind a call: the answer, if there is one, on the stack -/
def sy_bh (v : ev_V) (r : List ev_V) : List ev_V := if v.1 = 9 then r else v :: r
theorem sy_bk1 {v : ev_V} {Kn : e2_S} (hv : v.1 ≠ 12) (hg : Kn al (sy_bh v r) E h = true) : e2_bk v Kn al r E h = true := by
  obtain ⟨t, a, b⟩ := v
  have hv : t ≠ 12 := hv
  show e2_el (Nat.beq t 9) _ (e2_el (Nat.beq t 12) _ _) = true
  by_cases h9 : t = 9
  · subst h9
    exact hg
  · have hb : sy_bh (t, a, b) r = (t, a, b) :: r := if_neg h9
    rw [hb] at hg
    rw [sy_el_f (Bool.eq_false_iff.mpr fun z => h9 (Nat.eq_of_beq_eq_true z)), sy_el_f (Bool.eq_false_iff.mpr fun z => hv (Nat.eq_of_beq_eq_true z))]
    exact hg
theorem sy_virt (hG : sy_St (sy_call l d) F X G) {k n ci a b : Nat} {qs lc : List ev_V} {P : ev_V → e2_E → ev_H → Prop} (ha : sy_at X pc (o2_virt k n ci) q) (hst : st = qs ++ (2, a, b) :: r) (hn : n = qs.length) (h133 : a < 133) (hc : ev_hg h a = (ci, lc)) (hr : e2_small r = true) (hm : sy_C l D k ((2, a, b) :: qs.reverse) E h P) (hd : D ≤ d) (hg : ∀ v E h, P v E h → v.1 ≠ 12 ∧ G q al (sy_bh v r) E h) : G pc al st E h := by
  subst hst
  subst hn
  refine sy_go hG ha ?_
  show e2_cut qs.length [] (qs ++ (2, a, b) :: r) _ = true
  rw [sy_cut, List.append_nil]
  unfold e2_1
  dsimp only
  rw [sy_cell h133 hc, sy_if_t (Nat.beq_refl _), sy_if_t hr]
  exact sy_K_i fun M hM => hm d hd _ (fun v E h hp => sy_bk1 (hg v E h hp).1 (sy_K_i (hg v E h hp).2)) M hM
theorem sy_stat (hG : sy_St (sy_call l d) F X G) {k n : Nat} {qs : List ev_V} {P : ev_V → e2_E → ev_H → Prop} (ha : sy_at X pc (o2_stat k n) q) (hst : st = qs ++ r) (hn : n = qs.length) (hr : e2_small r = true) (hm : sy_C l D k qs.reverse E h P) (hd : D ≤ d) (hg : ∀ v E h, P v E h → v.1 ≠ 12 ∧ G q al (sy_bh v r) E h) : G pc al st E h := by
  subst hst
  subst hn
  refine sy_go hG ha ?_
  show e2_cut qs.length [] (qs ++ r) _ = true
  rw [sy_cut, List.append_nil, sy_if_t hr]
  exact sy_K_i fun M hM => hm d hd _ (fun v E h hp => sy_bk1 (hg v E h hp).1 (sy_K_i (hg v E h hp).2)) M hM
end SymCall
-- bits
def sy_bt (x : Int32) (i : Nat) : Bool := x.toBitVec.getLsbD i
theorem sy_bt_u (x : Int32) (i : Nat) : sy_bt x i = true ↔ ev_u x / 2 ^ i % 2 = 1 := by
  have h : sy_bt x i = (ev_u x).testBit i := rfl
  rw [h, Nat.testBit_eq_decide_div_mod_eq, decide_eq_true_iff]
theorem sy_bt_or (x y : Int32) (i : Nat) : sy_bt (x ||| y) i = (sy_bt x i || sy_bt y i) := by unfold sy_bt; rw [Int32.toBitVec_or, BitVec.getLsbD_or]
theorem sy_bt_and (x y : Int32) (i : Nat) : sy_bt (x &&& y) i = (sy_bt x i && sy_bt y i) := by unfold sy_bt; rw [Int32.toBitVec_and, BitVec.getLsbD_and]
theorem sy_s_u : ∀ n, n < 32 → (((ev_i n).toUInt32 &&& Int32.toUInt32 31).toBitVec % 32).toNat = n := by decide +kernel
theorem sy_s_l : ∀ n, n < 32 → ((ev_i n &&& 31).toBitVec.smod 32).toNat = n := by decide +kernel
theorem sy_bt_ushr (n : Nat) (hn : n < 32) (x : Int32) (i : Nat) : sy_bt (ev_ushr x (ev_i n)) i = sy_bt x (n + i) := by
  show (x.toUInt32 >>> ((ev_i n).toUInt32 &&& Int32.toUInt32 31)).toBitVec.getLsbD i = x.toUInt32.toBitVec.getLsbD (n + i)
  rw [UInt32.toBitVec_shiftRight]
  show (x.toUInt32.toBitVec >>> (((ev_i n).toUInt32 &&& Int32.toUInt32 31).toBitVec % 32).toNat).getLsbD i = _
  rw [sy_s_u n hn, BitVec.getLsbD_ushiftRight]
theorem sy_bt_shl (n : Nat) (hn : n < 32) (x : Int32) {i : Nat} (hi : i < 32) : sy_bt (x <<< (ev_i n &&& 31)) i = (decide (n ≤ i) && sy_bt x (i - n)) := by
  unfold sy_bt
  rw [Int32.toBitVec_shiftLeft]
  show (x.toBitVec <<< ((ev_i n &&& 31).toBitVec.smod 32).toNat).getLsbD i = _
  rw [sy_s_l n hn, BitVec.getLsbD_shiftLeft]
  rcases Nat.lt_or_ge i n with h | h
  · simp [h, Nat.not_le.mpr h]
  · simp [hi, h, Nat.not_lt.mpr h]
theorem sy_bt_1 : ∀ i, i < 32 → sy_bt 1 i = decide (i = 0) := by decide +kernel
/-- one bit, taken out -/
theorem sy_and1 (x : Int32) : (x &&& 1 = 0 ∨ x &&& 1 = 1) ∧ (x &&& 1 = 0 ↔ sy_bt x 0 = false) := by
  have h : x &&& 1 = if sy_bt x 0 then 1 else 0 := by
    apply Int32.toBitVec_inj.mp
    apply BitVec.eq_of_getLsbD_eq
    intro i hi
    show sy_bt (x &&& 1) i = sy_bt (if sy_bt x 0 then 1 else 0) i
    rw [sy_bt_and, sy_bt_1 i hi]
    by_cases hz : i = 0
    · subst hz
      cases sy_bt x 0 <;> decide +kernel
    · rw [decide_eq_false hz]
      cases sy_bt x 0
      · simp [sy_bt]
      · simp [sy_bt_1 i hi, hz]
  rw [h]
  cases sy_bt x 0 <;> decide
