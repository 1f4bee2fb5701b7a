/-! FROM SYMBOLIC RUNS TO SUMMARIES: a known heap made exact at the start, what is left of it at the end -/
section Brg
variable {p : Program} {l : Launch} {e : Env} {R : Room} {s : State} {m : MethodId} {args : Array Value} {below : List Frame} {meth : Method} {c : Code} {Q : State → Prop} {D : va_G} {cA : e2_cA} {A : Nat → Prop} {ads r0 r1 : List Nat} {d : Nat} {F F' : e2_F} {M : ev_M}
theorem sy_gd {C : List ev_I} {X : List e2_X} (mk : List Nat) (hen : en_ok) (hC : ∀ S, e2_okL e2_MT M.1.cls (M.1.name == "<init>") M.2.2.2 M.2.1 (e2_mark S C)) (hX : X = (e2_mark mk C).map e2_x) (ha : e2_act M d F p l e R s m args below meth c Q D cA A ads r0) : sy_St (sy_call l d) F X (e2_gdM M p l e R s m args below meth c Q D cA A ads r0) := by
  subst hX
  have hcall : ∀ k M, e2_MT[k]? = some M → ∀ as E h K, sy_call l d k as E h K = true → e2_Met l M d as E h K := fun k M hM as E h K hk => sy_K_e hk M hM
  refine ⟨?_, ?_⟩
  · intro pc q op hat Kn Kj al st E h hop hn hj
    obtain ⟨o, R', hs⟩ := hat
    obtain ⟨L, e1, e2, e3⟩ := e2_seek_ok pc _ (hC mk)
    rw [e1] at hs
    cases L with
    | nil => cases hs
    | cons x L1 =>
      cases L1 with
      | nil => cases (List.cons.inj hs).2
      | cons y L2 =>
        have h1 : e2_x x = (pc, op) := (List.cons.inj hs).1
        have h2 : e2_x y = (q, o) := (List.cons.inj (List.cons.inj hs).2).1
        have hp : x.1.1 = pc := congrArg Prod.fst h1
        have ho : e2_op x = op := congrArg Prod.snd h1
        have hq : y.1.1 = q := congrArg Prod.fst h2
        have hsd := e2_step_ok hen ha hcall e2
        have hl := e2.2.2.2.1 y L2 rfl
        rw [ho, hp] at hsd
        refine hsd Kn Kj al st E h hop ?_ hj
        intro al st E h hk
        rw [show pc + x.1.2.2.1 = q by omega]
        exact hn al st E h hk
  · intro pc op hat Kj al st E h hop hj
    obtain ⟨R', hs⟩ := hat
    obtain ⟨L, e1, e2, e3⟩ := e2_seek_ok pc _ (hC mk)
    rw [e1] at hs
    cases L with
    | nil => cases hs
    | cons x L1 =>
      have h1 : e2_x x = (pc, op) := (List.cons.inj hs).1
      have hp : x.1.1 = pc := congrArg Prod.fst h1
      have ho : e2_op x = op := congrArg Prod.snd h1
      have hsd := e2_step_ok hen ha hcall e2
      rw [ho, hp] at hsd
      exact hsd (fun _ _ _ _ => false) Kj al st E h hop (fun _ _ _ _ z => by cases z) hj
/-- another word for the end, that serves the first -/
theorem e2_act.conv (ha : e2_act M d F p l e R s m args below meth c Q D cA A ads r0) (hcv : ∀ v E h r ws H, F' v E h = true → (∃ x, r = r1 ++ x) → e2_sat r E → e2_wo D cA A ads r ws h H → ∃ v2 E2 h2 r2, F v2 E2 h2 = true ∧ (∃ x, r2 = r0 ++ x) ∧ e2_sat r2 E2 ∧ e2_wo D cA A ads r2 ws h2 H ∧ (v = (9, 0, 0) → v2 = (9, 0, 0)) ∧ (v.1 ≠ 9 → v2.1 ≠ 9 ∧ v2.1 ≠ 7) ∧ ∀ w, e2_rel ads r v w → e2_rel ads r2 v2 w) : e2_act M d F' p l e R s m args below meth c Q D cA A ads r1 := by
  obtain ⟨h1, h2, h3, h4, h5, h6⟩ := ha
  refine ⟨h1, h2, fun z pc r ws H locs ls x v E h hp hF hs hwo hS h9 h7 hr hd => ?_, fun z pc r ws H locs ls x v E h hp hF hs hwo hS h9 h7 hr hx hd => ?_, fun z pc r ws H locs ls x v E h hp hF hs hwo hS h9 h7 hr hd => ?_, fun z pc r ws H locs ls E h hp hF hs hwo hS hd => ?_⟩
  · obtain ⟨v2, E2, g2, r2, q1, q2, q3, q4, q5, q6, q7⟩ := hcv v E h r ws H hF hp hs hwo
    exact h3 z pc r2 ws H locs ls x v2 E2 g2 q2 q1 q3 q4 hS (q6 h9).1 (q6 h9).2 (q7 _ hr) hd
  · obtain ⟨v2, E2, g2, r2, q1, q2, q3, q4, q5, q6, q7⟩ := hcv v E h r ws H hF hp hs hwo
    exact h4 z pc r2 ws H locs ls x v2 E2 g2 q2 q1 q3 q4 hS (q6 h9).1 (q6 h9).2 (q7 _ hr) hx hd
  · obtain ⟨v2, E2, g2, r2, q1, q2, q3, q4, q5, q6, q7⟩ := hcv v E h r ws H hF hp hs hwo
    exact h5 z pc r2 ws H locs ls x v2 E2 g2 q2 q1 q3 q4 hS (q6 h9).1 (q6 h9).2 (q7 _ hr) hd
  · obtain ⟨v2, E2, g2, r2, q1, q2, q3, q4, q5, q6, q7⟩ := hcv (9, 0, 0) E h r ws H hF hp hs hwo
    rw [q5 rfl] at q1
    exact h6 z pc r2 ws H locs ls E2 g2 q2 q1 q3 q4 hS hd
end Brg
theorem sy_exp0 {as : List ev_V} (h : ∀ v ∈ as, e2_isL v.1 = false) : e2_exp as = as := by
  induction as with
  | nil => rfl
  | cons x xs ih =>
    show (Bool.rec (motive := fun _ => List ev_V) (x :: e2_exp xs) (x :: (9, 0, 0) :: e2_exp xs) (e2_isL x.1) : List ev_V) = x :: xs
    rw [h x List.mem_cons_self, ih fun v hv => h v (List.mem_cons_of_mem _ hv)]
/-- a summary out of symbolic runs; asx: the arguments made exact -/
theorem sy_smOk {l : Launch} {k nL D : Nat} {C : List ev_I} {X : List e2_X} {as : List ev_V} {E : e2_E} {f : ev_H} {res : e2_Rs} (mk : List Nat) (hen : en_ok) (hm : e2_mOk k nL C) (hX : X = (e2_mark mk C).map e2_x) (hlen : (e2_exp as).length ≤ nL) (hok : e2_okSB E.length as f res = true) (hres : e2_allR res (fun q => e2_fin res q.1 E q.2) = true)
    (hg : ∀ (d : Nat), D ≤ d → ∀ (Dg : va_G) (cA : e2_cA) (A : Nat → Prop) (ads r : List Nat) (ws : va_W) (H : Heap) (ls : Array Slot), e2_sat r E → e2_wo Dg cA A ads r ws f H → e2_fr ads r nL (e2_al nL as) ls → ∃ (alx : List ev_V) (hx : ev_H) (F' : e2_F), e2_fr ads r nL alx ls ∧ e2_wo Dg cA A ads r ws hx H ∧ (∀ G : sy_P, sy_St (sy_call l d) F' X G → G 0 alx [] E hx) ∧
      ∀ v E' h' r' ws' H', F' v E' h' = true → (∃ x, r' = r ++ x) → e2_wo Dg cA A ads r' ws' h' H' → ∃ q ∈ res, e2_wo Dg cA A ads r' ws' q.2 H' ∧ (v = (9, 0, 0) → q.1 = (9, 0, 0)) ∧ (v.1 ≠ 9 → q.1.1 ≠ 9 ∧ q.1.1 ≠ 7) ∧ ∀ w, e2_rel ads r' v w → e2_rel ads r' q.1 w) : e2_smOk l (D + 1) (k, as, E, f, res) := by
  have hok2 := e2_okSB_ok hok
  refine ⟨hok2, fun M hM d hd => ?_⟩
  obtain ⟨M', hM', hn, hpl, hC⟩ := hm
  have hM : e2_MT[k]? = some M := hM
  rw [hM] at hM'
  cases hM'
  cases d with
  | zero => omega
  | succ d =>
    refine e2_Met_ofG hpl (by rw [hn]; exact hlen) fun p e R s m args below meth c Q Dg cA A ads r0 ha => ?_
    rw [hn]
    intro r ws H locs ls vs hp hs hwo hS hfr hst
    rw [hn] at hfr
    obtain ⟨alx, hx, F', g1, g2, g3, g4⟩ := hg d (by omega) Dg cA A ads r ws H ls hs hwo hfr
    have ha2 : e2_act M d F' p l e R s m args below meth c Q Dg cA A ads r := by
      refine ha.conv fun v E' h' r' ws' H' hF' hp' hs' hwo' => ?_
      obtain ⟨q, q1, q2, q3, q4, q5⟩ := g4 v E' h' r' ws' H' hF' hp' hwo'
      obtain ⟨o1, -, o3, -, o5⟩ := hok2.1
      obtain ⟨i1, i2, -⟩ := o5 q q1
      have htk : r'.take E.length = r := by
        obtain ⟨x, rfl⟩ := hp'
        rw [← hs.1]
        simp
      have hpre : ∃ x, r' = r ++ x := hp'
      refine ⟨q.1, E, q.2, r, e2_allR_ok hres q q1, hp, hs, ?_, q3, q4, fun w hw => ?_⟩
      · have := q2.take i2
        rw [htk] at this
        exact this
      · have := e2_idv_ok i1 (q5 w hw)
        rw [htk] at this
        exact this
    have hgd := g3 _ (sy_gd mk hen hC hX ha2)
    exact hgd r ws H locs ls vs ⟨[], by simp⟩ hs g2 hS (by rw [hn]; exact g1) hst
-- all ints of a world made exact
def ex_v (v : ev_V) (w : Value) : ev_V := match w with
  | .int x => sy_I x
  | .long x => (4, x.toUInt64.toNat, 0)
  | _ => v
/-- a row of exact longs -/
def sy_RL (n : Nat) (f : Nat → Int64) : List ev_V := (List.range n).map fun i => (4, (f i).toUInt64.toNat, 0)
theorem sy_RL_len {n : Nat} {f : Nat → Int64} : (sy_RL n f).length = n := by simp [sy_RL]
theorem sy_RL_get {n : Nat} {f : Nat → Int64} {i : Nat} (hi : i < n) : (sy_RL n f)[i]? = some (4, (f i).toUInt64.toNat, 0) := by simp [sy_RL, hi]
def ex_C (c : ev_C) (e : va_E) : ev_C := match e with
  | .inl (_, n, .inl f) => if c.1 = 50 ∨ c.1 = 54 ∨ c.1 = 57 ∨ c.1 = 58 then (50, sy_R n f) else if c.1 = 51 ∨ c.1 = 55 then (51, sy_R n f) else if c.1 = 52 ∨ c.1 = 56 then (52, sy_R n f) else c
  | .inl (_, n, .inr (.inl f)) => if c.1 = 53 ∨ c.1 = 59 then (59, sy_RL n f) else c
  | .inr (_, vs) => if c.1 < 50 then (c.1, List.zipWith ex_v c.2 vs) else c
  | _ => c
noncomputable def ex_all (ws : va_W) (f : ev_H) : ev_H := ev_tmk 8 fun k => match ws[k]? with
  | some q => ex_C (ev_hg f k) q.2
  | none => ev_hg f k
theorem ev_tmk_get {α : Type} (n : Nat) : ∀ (F : Nat → α) (k : Nat), k < 2 ^ n → ev_tget n (ev_tmk n F) k id = F k := by
  induction n with
  | zero => intro F k hk; have : k = 0 := by simpa using hk
            subst this; rfl
  | succ n ih =>
    intro F k hk
    have hk2 : k / 2 < 2 ^ n := by rw [Nat.pow_succ] at hk; omega
    show Bool.rec (motive := fun _ => α) (ev_tget n (ev_tmk n fun i => F (2 * i)) (Nat.div k 2) id) (ev_tget n (ev_tmk n fun i => F (2 * i + 1)) (Nat.div k 2) id) (Nat.beq (Nat.mod k 2) 1) = F k
    by_cases hb : k % 2 = 1
    · rw [show Nat.beq (Nat.mod k 2) 1 = true from by rw [show Nat.mod k 2 = 1 from hb]; rfl]
      have := ih (fun i => F (2 * i + 1)) (k / 2) hk2
      show ev_tget n (ev_tmk n fun i => F (2 * i + 1)) (k / 2) id = F k
      rw [this, show 2 * (k / 2) + 1 = k by omega]
    · rw [show Nat.beq (Nat.mod k 2) 1 = false from by rw [show Nat.mod k 2 = 0 by show k % 2 = 0; omega]; rfl]
      have := ih (fun i => F (2 * i)) (k / 2) hk2
      show ev_tget n (ev_tmk n fun i => F (2 * i)) (k / 2) id = F k
      rw [this, show 2 * (k / 2) = k by omega]
theorem ex_get {ws : va_W} {f : ev_H} {k a : Nat} {e : va_E} (hk : k < 133) (he : ws[k]? = some (a, e)) : ev_hg (ex_all ws f) k = ex_C (ev_hg f k) e := by
  show ev_tget 8 (ev_tmk 8 _) k id = _
  rw [ev_tmk_get 8 _ k (by omega), he]
theorem ex_long (x : Int64) : Int64.ofNat x.toUInt64.toNat = x := by
  apply Int64.toBitVec_inj.mp
  simp
theorem ex_v_rel {ads r : List Nat} {v : ev_V} {w : Value} (h : e2_rel ads r v w) : e2_rel ads r (ex_v v w) w := by
  cases w with
  | int x => exact e2_rel.ex ads r x 0
  | long x => show Value.long x = .long (Int64.ofNat x.toUInt64.toNat); rw [ex_long]
  | _ => exact h
/-- what an exact value says of another word -/
theorem ex_v_bk {ads r r' : List Nat} {v : ev_V} {w w' : Value} (h : e2_rel ads r v w) (hp : ∃ x, r' = r ++ x) (h' : e2_rel ads r' (ex_v v w) w') : e2_rel ads r' v w' := by
  cases w with
  | int x =>
    have hx : w' = .int (ev_i (ev_u x)) := h'
    rw [ev_iu] at hx
    rw [hx]
    exact h.mono hp
  | long x =>
    have hx : w' = .long (Int64.ofNat x.toUInt64.toNat) := h'
    rw [ex_long] at hx
    rw [hx]
    exact h.mono hp
  | _ => exact h'
theorem ex_zip {α β γ : Type} {g : α → β → γ} {l : List α} {m : List β} {j : Nat} {c : γ} (h : (List.zipWith g l m)[j]? = some c) : ∃ a b, l[j]? = some a ∧ m[j]? = some b ∧ c = g a b := by
  rw [List.getElem?_zipWith] at h
  cases ha : l[j]? with
  | none => rw [ha] at h; simp at h
  | some a =>
    cases hb : m[j]? with
    | none => rw [ha, hb] at h; simp at h
    | some b => rw [ha, hb] at h; exact ⟨a, b, rfl, rfl, by simpa using h.symm⟩
theorem ex_R {cA : e2_cA} {ads r : List Nat} {n i : Nat} {f : Nat → Int32} (hi : i < 3) : e2_relC cA ads r (50 + i) (sy_R n f) (.inl (cA.1 i, n, .inl f)) := by
  refine Or.inr (Or.inl ⟨by omega, by omega, f, by rw [sy_R_len, show 50 + i - 50 = i by omega], fun j v hj => ?_⟩)
  have hjn : j < n := by have := (List.getElem?_eq_some_iff.mp hj).1; rw [sy_R_len] at this; exact this
  rw [sy_R_get hjn] at hj
  cases hj
  exact e2_rel.ex ads r (f j) 0
theorem ex_RL {cA : e2_cA} {ads r : List Nat} {n : Nat} {f : Nat → Int64} : e2_relC cA ads r 59 (sy_RL n f) (.inl (cA.1 3, n, .inr (.inl f))) := by
  refine Or.inr (Or.inr (Or.inr (Or.inr (Or.inr (Or.inr (Or.inr ⟨rfl, f, by rw [sy_RL_len], fun j v hj => ?_⟩))))))
  have hjn : j < n := by have := (List.getElem?_eq_some_iff.mp hj).1; rw [sy_RL_len] at this; exact this
  rw [sy_RL_get hjn] at hj
  cases hj
  show Value.long (f j) = .long (Int64.ofNat (f j).toUInt64.toNat)
  rw [ex_long]
theorem ex_RL_e {cA : e2_cA} {ads r : List Nat} {n : Nat} {f : Nat → Int64} {e : va_E} (h : e2_relC cA ads r 59 (sy_RL n f) e) : ∃ g, e = .inl (cA.1 3, n, .inr (.inl g)) ∧ ∀ j, j < n → g j = f j := by
  obtain ⟨g, h1, h2⟩ := h.lng9 rfl
  rw [sy_RL_len] at h1
  refine ⟨g, h1, fun j hj => ?_⟩
  have hx : Value.long (g j) = .long (Int64.ofNat (f j).toUInt64.toNat) := h2 j _ (sy_RL_get hj)
  rw [ex_long] at hx
  injection hx
/-- an exact row says what the row is, as far as it goes -/
theorem ex_R_e {cA : e2_cA} {ads r : List Nat} {n i : Nat} {f : Nat → Int32} {e : va_E} (hi : i < 3) (h : e2_relC cA ads r (50 + i) (sy_R n f) e) : ∃ g, e = .inl (cA.1 i, n, .inl g) ∧ ∀ j, j < n → g j = f j := by
  obtain ⟨g, h1, h2⟩ := h.arr (by omega) (by omega)
  rw [sy_R_len, show 50 + i - 50 = i by omega] at h1
  refine ⟨g, h1, fun j hj => ?_⟩
  have := h2 j _ (sy_R_get hj)
  have hx : Value.int (g j) = .int (ev_i (ev_u (f j))) := this
  rw [ev_iu] at hx
  injection hx
theorem ex_C_rel {cA : e2_cA} {ads r : List Nat} {c : ev_C} {e : va_E} (h : e2_relC cA ads r c.1 c.2 e) : e2_relC cA ads r (ex_C c e).1 (ex_C c e).2 e ∧ (ex_C c e).1 ≠ 57 ∧ (ex_C c e).1 ≠ 58 := by
  obtain ⟨t, l⟩ := c
  rcases h with ⟨z0, vs, z1, z2, z3⟩ | ⟨z0, z1, f, z2, z3⟩ | ⟨z0, n, b, f, z1, z2⟩ | ⟨z0, z1, n, b, lo, hi, f, z2, z3, z4⟩ | ⟨z0, z1⟩ | ⟨z0, n, b, lo, hi, c, f, z1, z2, z3⟩ | ⟨z0, f, z1, z2⟩ | ⟨z0, f, z1, z2⟩
  · subst z1
    show e2_relC cA ads r (if t < 50 then (t, List.zipWith ex_v l vs) else (t, l) : ev_C).1 (if t < 50 then (t, List.zipWith ex_v l vs) else (t, l) : ev_C).2 _ ∧ (if t < 50 then (t, List.zipWith ex_v l vs) else (t, l) : ev_C).1 ≠ 57 ∧ (if t < 50 then (t, List.zipWith ex_v l vs) else (t, l) : ev_C).1 ≠ 58
    have z0' : t < 50 := z0
    rw [if_pos z0']
    refine ⟨Or.inl ⟨z0', vs, rfl, by simp only [List.length_zipWith]; rw [z2]; simp, fun j v hj => ?_⟩, by show t ≠ 57; omega, by show t ≠ 58; omega⟩
    obtain ⟨a, w, q1, q2, rfl⟩ := ex_zip hj
    obtain ⟨w', w1, w2⟩ := z3 j a q1
    rw [q2] at w1
    cases w1
    exact ⟨w, q2, ex_v_rel w2⟩
  · have hz : t = 50 ∨ t = 51 ∨ t = 52 := by have : 50 ≤ t := z0; have : t ≤ 52 := z1; omega
    subst z2
    rcases hz with rfl | rfl | rfl
    · exact ⟨ex_R (i := 0) (by omega), (show (50 : Nat) ≠ 57 by decide), (show (50 : Nat) ≠ 58 by decide)⟩
    · exact ⟨ex_R (i := 1) (by omega), (show (51 : Nat) ≠ 57 by decide), (show (51 : Nat) ≠ 58 by decide)⟩
    · exact ⟨ex_R (i := 2) (by omega), (show (52 : Nat) ≠ 57 by decide), (show (52 : Nat) ≠ 58 by decide)⟩
  · have z0 : t = 53 := z0
    subst z0
    subst z2
    exact ⟨ex_RL, (show (59 : Nat) ≠ 57 by decide), (show (59 : Nat) ≠ 58 by decide)⟩
  · have hz : t = 54 ∨ t = 55 ∨ t = 56 := by have : 54 ≤ t := z0; have : t ≤ 56 := z1; omega
    subst z3
    rcases hz with rfl | rfl | rfl
    · exact ⟨ex_R (i := 0) (by omega), (show (50 : Nat) ≠ 57 by decide), (show (50 : Nat) ≠ 58 by decide)⟩
    · exact ⟨ex_R (i := 1) (by omega), (show (51 : Nat) ≠ 57 by decide), (show (51 : Nat) ≠ 58 by decide)⟩
    · exact ⟨ex_R (i := 2) (by omega), (show (52 : Nat) ≠ 57 by decide), (show (52 : Nat) ≠ 58 by decide)⟩
  · have z0 : 60 ≤ t := z0
    have : ex_C (t, l) e = (t, l) := by
      unfold ex_C
      split
      · rw [if_neg (by show ¬ (t = 50 ∨ t = 54 ∨ t = 57 ∨ t = 58); omega), if_neg (by show ¬ (t = 51 ∨ t = 55); omega), if_neg (by show ¬ (t = 52 ∨ t = 56); omega)]
      · rw [if_neg (by show ¬ (t = 53 ∨ t = 59); omega)]
      · rw [if_neg (by show ¬ t < 50; omega)]
      · rfl
    rw [this]
    exact ⟨Or.inr (Or.inr (Or.inr (Or.inr (Or.inl ⟨z0, z1⟩)))), by show t ≠ 57; omega, by show t ≠ 58; omega⟩
  · have z0 : t = 57 := z0
    subst z0
    subst z2
    exact ⟨ex_R (i := 0) (by omega), (show (50 : Nat) ≠ 57 by decide), (show (50 : Nat) ≠ 58 by decide)⟩
  · have z0 : t = 58 := z0
    subst z0
    subst z1
    exact ⟨ex_R (i := 0) (by omega), (show (50 : Nat) ≠ 57 by decide), (show (50 : Nat) ≠ 58 by decide)⟩
  · have z0 : t = 59 := z0
    subst z0
    subst z1
    exact ⟨ex_RL, (show (59 : Nat) ≠ 57 by decide), (show (59 : Nat) ≠ 58 by decide)⟩
theorem ex_wo {D : va_G} {cA : e2_cA} {A : Nat → Prop} {ads r : List Nat} {ws : va_W} {f : ev_H} {H : Heap} (hw : e2_wo D cA A ads r ws f H) : e2_wo D cA A ads r ws (ex_all ws f) H := by
  obtain ⟨h1, h2, h3, h4, h5, h6⟩ := hw
  have hc : ∀ k, k < 133 → ∃ a e, ws[k]? = some (a, e) ∧ e2_relC cA ads r (ev_hg (ex_all ws f) k).1 (ev_hg (ex_all ws f) k).2 e ∧ (ev_hg (ex_all ws f) k).1 ≠ 57 := fun k hk => by
    obtain ⟨a, e, q1, q2⟩ := h3 k hk
    rw [ex_get hk q1]
    exact ⟨a, e, q1, (ex_C_rel q2).1, (ex_C_rel q2).2.1⟩
  refine ⟨h1, h2, fun k hk => ?_, h4, h5, fun cs hcs hgd => ?_⟩
  · obtain ⟨a, e, q1, q2, -⟩ := hc k hk
    exact ⟨a, e, q1, q2⟩
  · obtain ⟨i0, -, -, -, ik⟩ := e2_Jc_in hcs
    obtain ⟨a, e, -, -, q3⟩ := hc _ (ik _ i0)
    exact absurd hgd.1 q3
/-- a cell that was kept as it was made exact: what was known of it -/
theorem ex_bk {cA : e2_cA} {ads r r' : List Nat} {c : ev_C} {e e' : va_E} (h : e2_relC cA ads r c.1 c.2 e) (hp : ∃ x, r' = r ++ x) (h' : e2_relC cA ads r' (ex_C c e).1 (ex_C c e).2 e') : e2_relC cA ads r' c.1 c.2 e' := by
  obtain ⟨t, l⟩ := c
  rcases h with ⟨z0, vs, z1, z2, z3⟩ | ⟨z0, z1, f, z2, z3⟩ | ⟨z0, n, b, f, z1, z2⟩ | ⟨z0, z1, n, b, lo, hi, f, z2, z3, z4⟩ | ⟨z0, z1⟩ | ⟨z0, n, b, lo, hi, c, f, z1, z2, z3⟩ | ⟨z0, f, z1, z2⟩ | ⟨z0, f, z1, z2⟩
  · subst z1
    have z0' : t < 50 := z0
    rw [show ex_C (t, l) (.inr (t, vs)) = (t, List.zipWith ex_v l vs) from if_pos z0'] at h'
    obtain ⟨vs', y1, y2, y3⟩ := h'.obj z0'
    refine Or.inl ⟨z0', vs', y1, ?_, fun j v hj => ?_⟩
    · rw [y2]
      show (List.zipWith ex_v l vs).length = l.length
      rw [List.length_zipWith]
      have : vs.length = l.length := z2
      omega
    · obtain ⟨w, w1, w2⟩ := z3 j v hj
      obtain ⟨w', u1, u2⟩ := y3 j (ex_v v w) (by show (List.zipWith ex_v l vs)[j]? = _; rw [List.getElem?_zipWith, show l[j]? = some v from hj, w1])
      exact ⟨w', u1, ex_v_bk w2 hp u2⟩
  · have hz : t = 50 ∨ t = 51 ∨ t = 52 := by have : 50 ≤ t := z0; have : t ≤ 52 := z1; omega
    subst z2
    have key : ∀ i, i < 3 → e2_relC cA ads r' (50 + i) (sy_R l.length f) e' → e2_relC cA ads r' (50 + i) l e' := fun i hi hh => by
      obtain ⟨g, g1, g2⟩ := ex_R_e hi hh
      refine Or.inr (Or.inl ⟨by omega, by omega, g, by rw [g1, show 50 + i - 50 = i by omega], fun j v hj => ?_⟩)
      rw [g2 j (List.getElem?_eq_some_iff.mp hj).1]
      exact (z3 j v hj).mono hp
    rcases hz with rfl | rfl | rfl
    · exact key 0 (by omega) h'
    · exact key 1 (by omega) h'
    · exact key 2 (by omega) h'
  · have z0 : t = 53 := z0
    subst z0
    subst z2
    obtain ⟨g, g1, -⟩ := ex_RL_e h'
    exact Or.inr (Or.inr (Or.inl ⟨rfl, n, b, g, z1, g1⟩))
  · have hz : t = 54 ∨ t = 55 ∨ t = 56 := by have : 54 ≤ t := z0; have : t ≤ 56 := z1; omega
    subst z3
    have key : ∀ i, i < 3 → e2_relC cA ads r' (50 + i) (sy_R n f) e' → e2_relC cA ads r' (54 + i) l e' := fun i hi3 hh => by
      obtain ⟨g, g1, g2⟩ := ex_R_e hi3 hh
      exact Or.inr (Or.inr (Or.inr (Or.inl ⟨by omega, by omega, n, b, lo, hi, g, z2, by rw [g1, show 54 + i - 54 = i by omega], fun j hj => by rw [g2 j hj]; exact z4 j hj⟩)))
    rcases hz with rfl | rfl | rfl
    · exact key 0 (by omega) h'
    · exact key 1 (by omega) h'
    · exact key 2 (by omega) h'
  · have z0 : 60 ≤ t := z0
    have : ex_C (t, l) e = (t, l) := by
      unfold ex_C
      split
      · rw [if_neg (by show ¬ (t = 50 ∨ t = 54 ∨ t = 57 ∨ t = 58); omega), if_neg (by show ¬ (t = 51 ∨ t = 55); omega), if_neg (by show ¬ (t = 52 ∨ t = 56); omega)]
      · rw [if_neg (by show ¬ (t = 53 ∨ t = 59); omega)]
      · rw [if_neg (by show ¬ t < 50; omega)]
      · rfl
    rw [this] at h'
    exact h'
  · have z0 : t = 57 := z0
    subst z0
    subst z2
    obtain ⟨g, g1, g2⟩ := ex_R_e (i := 0) (by omega) h'
    exact Or.inr (Or.inr (Or.inr (Or.inr (Or.inr (Or.inl ⟨rfl, n, b, lo, hi, c, g, z1, g1, fun j hj => by rw [g2 j hj]; exact z3 j hj⟩)))))
  · have z0 : t = 58 := z0
    subst z0
    subst z1
    obtain ⟨g, g1, g2⟩ := ex_R_e (i := 0) (by omega) h'
    refine Or.inr (Or.inr (Or.inr (Or.inr (Or.inr (Or.inr (Or.inl ⟨rfl, g, g1, fun j v hj => ?_⟩))))))
    rw [g2 j (List.getElem?_eq_some_iff.mp hj).1]
    exact (z2 j v hj).mono hp
  · have z0 : t = 59 := z0
    subst z0
    subst z1
    obtain ⟨g, g1, g2⟩ := ex_RL_e h'
    refine Or.inr (Or.inr (Or.inr (Or.inr (Or.inr (Or.inr (Or.inr ⟨rfl, g, g1, fun j v hj => ?_⟩))))))
    rw [g2 j (List.getElem?_eq_some_iff.mp hj).1]
    exact (z2 j v hj).mono hp
-- cells of a world, made exact
section Exact
variable {D : va_G} {cA : e2_cA} {A : Nat → Prop} {ads r : List Nat} {ws : va_W} {f : ev_H} {H : Heap}
theorem ex_54 (hw : e2_wo D cA A ads r ws f H) {k n b lo hi : Nat} (hk : k < 133) (hc : ev_hg f k = (54, [(0, n, b), (11, lo, hi)])) : ∃ g, e2_ct ws k g ∧ (∀ j, j < n → lo ≤ ev_key (g j) ∧ ev_key (g j) ≤ hi) ∧ ev_hg (ex_all ws f) k = (50, sy_R n g) := by
  obtain ⟨a, e, q1, q2⟩ := hw.2.2.1 k hk
  rw [ex_get hk q1]
  rw [hc] at q2 ⊢
  obtain ⟨N, b', lo', hi', g, l1, rfl, l3⟩ := q2.uni (show 54 ≤ 54 by decide) (show 54 ≤ 56 by decide)
  cases l1
  exact ⟨g, ⟨_, n, by rw [q1]; rfl⟩, l3, rfl⟩
theorem ex_57 (hw : e2_wo D cA A ads r ws f H) {k n b lo hi c : Nat} (hk : k < 133) (hc : ev_hg f k = (57, [(0, n, b), (11, lo, hi), (1, 1, c)])) : ∃ g, e2_ct ws k g ∧ (∀ j, j < n → lo ≤ ev_key (g j) ∧ ev_key (g j) ≤ hi) ∧ ev_hg (ex_all ws f) k = (50, sy_R n g) := by
  obtain ⟨a, e, q1, q2⟩ := hw.2.2.1 k hk
  rw [ex_get hk q1]
  rw [hc] at q2 ⊢
  obtain ⟨N, b', lo', hi', c', g, l1, rfl, l3⟩ := q2.uni7 rfl
  cases l1
  exact ⟨g, ⟨_, n, by rw [q1]; rfl⟩, l3, rfl⟩
theorem ex_50 (hw : e2_wo D cA A ads r ws f H) {k tg : Nat} {l : List ev_V} (hk : k < 133) (ht : tg = 50 ∨ tg = 58) (hc : ev_hg f k = (tg, l)) : ∃ g, e2_ct ws k g ∧ (∀ (j : Nat) (v : ev_V), l[j]? = some v → e2_rel ads r v (.int (g j))) ∧ ev_hg (ex_all ws f) k = (50, sy_R l.length g) := by
  obtain ⟨a, e, q1, q2⟩ := hw.2.2.1 k hk
  rw [ex_get hk q1]
  rw [hc] at q2 ⊢
  rcases ht with rfl | rfl
  · obtain ⟨g, rfl, l3⟩ := q2.arr (show 50 ≤ 50 by decide) (show 50 ≤ 52 by decide)
    exact ⟨g, ⟨_, l.length, by rw [q1]; rfl⟩, l3, rfl⟩
  · obtain ⟨g, rfl, l3⟩ := q2.arr8 rfl
    exact ⟨g, ⟨_, l.length, by rw [q1]; rfl⟩, l3, rfl⟩
theorem ex_53 (hw : e2_wo D cA A ads r ws f H) {k n b : Nat} (hk : k < 133) (hc : ev_hg f k = (53, [(0, n, b)])) : ∃ g, ev_hg (ex_all ws f) k = (59, sy_RL n g) := by
  obtain ⟨a, e, q1, q2⟩ := hw.2.2.1 k hk
  rw [ex_get hk q1]
  rw [hc] at q2 ⊢
  obtain ⟨N, b', g, l1, rfl⟩ := q2.lng rfl
  cases l1
  exact ⟨g, rfl⟩
theorem ex_obj (hw : e2_wo D cA A ads r ws f H) {k ci : Nat} {l : List ev_V} (hk : k < 133) (hci : ci < 50) (hc : ev_hg f k = (ci, l)) : ∃ vs : List Value, vs.length = l.length ∧ (∀ (j : Nat) (v : ev_V), l[j]? = some v → ∃ w, vs[j]? = some w ∧ e2_rel ads r v w) ∧ ev_hg (ex_all ws f) k = (ci, List.zipWith ex_v l vs) := by
  obtain ⟨a, e, q1, q2⟩ := hw.2.2.1 k hk
  rw [ex_get hk q1]
  rw [hc] at q2 ⊢
  obtain ⟨vs, rfl, l2, l3⟩ := q2.obj hci
  exact ⟨vs, l2, l3, if_pos hci⟩
theorem e2_ct.same {k : Nat} {f g : Nat → Int32} (h1 : e2_ct ws k f) (h2 : e2_ct ws k g) : f = g := by
  obtain ⟨t, n, h1⟩ := h1
  obtain ⟨t', n', h2⟩ := h2
  rw [h1] at h2
  cases h2
  rfl
end Exact
