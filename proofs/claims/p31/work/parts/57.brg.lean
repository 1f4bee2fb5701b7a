/-! FROM SYMBOLIC RUNS TO SUMMARIES: a known heap made exact at the start, what is left of it at the end -/
section Brg
variable {p : Program} {l : Launch} {e : Env} {R : Room} {s : State} {m : MethodId} {args : Array Value} {below : List Frame} {meth : Method} {c : Code} {Q : State → Prop} {D : va_G} {cA : e2_cA} {A : Nat → Prop} {ads r0 r1 : List Nat} {d : Nat} {F F' : e2_F} {M : ev_M}
theorem sy_gd {C : List ev_I} {X : List e2_X} (mk : List Nat) (hen : en_ok) (hC : ∀ S, e2_okL e2_MT M.1.cls (M.1.name == "<init>") M.2.2.2 M.2.1 (e2_mark S C)) (hX : X = (e2_mark mk C).map e2_x) (ha : e2_act M d F p l e R s m args below meth c Q D cA A ads r0) : sy_St (sy_call l d) F X (e2_gdM M p l e R s m args below meth c Q D cA A ads r0) := by
  subst hX
  have hcall : ∀ k M, e2_MT[k]? = some M → ∀ as E h K, sy_call l d k as E h K = true → e2_Met l M d as E h K := fun k M hM as E h K hk => sy_K_e hk M hM
  refine ⟨?_, ?_⟩
  · intro pc q op hat Kn Kj al st E h hop hn hj
    obtain ⟨o, R', hs⟩ := hat
    obtain ⟨L, e1, e2, e3⟩ := e2_seek_ok pc _ (hC mk)
    rw [e1] at hs
    cases L with
    | nil => cases hs
    | cons x L1 =>
      cases L1 with
      | nil => cases (List.cons.inj hs).2
      | cons y L2 =>
        have h1 : e2_x x = (pc, op) := (List.cons.inj hs).1
        have h2 : e2_x y = (q, o) := (List.cons.inj (List.cons.inj hs).2).1
        have hp : x.1.1 = pc := congrArg Prod.fst h1
        have ho : e2_op x = op := congrArg Prod.snd h1
        have hq : y.1.1 = q := congrArg Prod.fst h2
        have hsd := e2_step_ok hen ha hcall e2
        have hl := e2.2.2.2.1 y L2 rfl
        rw [ho, hp] at hsd
        refine hsd Kn Kj al st E h hop ?_ hj
        intro al st E h hk
        rw [show pc + x.1.2.2.1 = q by omega]
        exact hn al st E h hk
  · intro pc op hat Kj al st E h hop hj
    obtain ⟨R', hs⟩ := hat
    obtain ⟨L, e1, e2, e3⟩ := e2_seek_ok pc _ (hC mk)
    rw [e1] at hs
    cases L with
    | nil => cases hs
    | cons x L1 =>
      have h1 : e2_x x = (pc, op) := (List.cons.inj hs).1
      have hp : x.1.1 = pc := congrArg Prod.fst h1
      have ho : e2_op x = op := congrArg Prod.snd h1
      have hsd := e2_step_ok hen ha hcall e2
      rw [ho, hp] at hsd
      exact hsd (fun _ _ _ _ => false) Kj al st E h hop (fun _ _ _ _ z => by cases z) hj
/-- another word for the end, that serves the first -/
theorem e2_act.conv (ha : e2_act M d F p l e R s m args below meth c Q D cA A ads r0) (hcv : ∀ v E h r ws H, F' v E h = true → (∃ x, r = r1 ++ x) → e2_sat r E → e2_wo D cA A ads r ws h H → ∃ v2 E2 h2 r2, F v2 E2 h2 = true ∧ (∃ x, r2 = r0 ++ x) ∧ e2_sat r2 E2 ∧ e2_wo D cA A ads r2 ws h2 H ∧ (v = (9, 0, 0) → v2 = (9, 0, 0)) ∧ (v.1 ≠ 9 → v2.1 ≠ 9 ∧ v2.1 ≠ 7) ∧ ∀ w, e2_rel ads r v w → e2_rel ads r2 v2 w) : e2_act M d F' p l e R s m args below meth c Q D cA A ads r1 := by
  obtain ⟨h1, h2, h3, h4, h5, h6⟩ := ha
  refine ⟨h1, h2, fun z pc r ws H locs ls x v E h hp hF hs hwo hS h9 h7 hr hd => ?_, fun z pc r ws H locs ls x v E h hp hF hs hwo hS h9 h7 hr hx hd => ?_, fun z pc r ws H locs ls x v E h hp hF hs hwo hS h9 h7 hr hd => ?_, fun z pc r ws H locs ls E h hp hF hs hwo hS hd => ?_⟩
  · obtain ⟨v2, E2, g2, r2, q1, q2, q3, q4, q5, q6, q7⟩ := hcv v E h r ws H hF hp hs hwo
    exact h3 z pc r2 ws H locs ls x v2 E2 g2 q2 q1 q3 q4 hS (q6 h9).1 (q6 h9).2 (q7 _ hr) hd
  · obtain ⟨v2, E2, g2, r2, q1, q2, q3, q4, q5, q6, q7⟩ := hcv v E h r ws H hF hp hs hwo
    exact h4 z pc r2 ws H locs ls x v2 E2 g2 q2 q1 q3 q4 hS (q6 h9).1 (q6 h9).2 (q7 _ hr) hx hd
  · obtain ⟨v2, E2, g2, r2, q1, q2, q3, q4, q5, q6, q7⟩ := hcv v E h r ws H hF hp hs hwo
    exact h5 z pc r2 ws H locs ls x v2 E2 g2 q2 q1 q3 q4 hS (q6 h9).1 (q6 h9).2 (q7 _ hr) hd
  · obtain ⟨v2, E2, g2, r2, q1, q2, q3, q4, q5, q6, q7⟩ := hcv (9, 0, 0) E h r ws H hF hp hs hwo
    rw [q5 rfl] at q1
    exact h6 z pc r2 ws H locs ls E2 g2 q2 q1 q3 q4 hS hd
end Brg
theorem sy_exp0 {as : List ev_V} (h : ∀ v ∈ as, e2_isL v.1 = false) : e2_exp as = as := by
  induction as with
  | nil => rfl
  | cons x xs ih =>
    show (Bool.rec (motive := fun _ => List ev_V) (x :: e2_exp xs) (x :: (9, 0, 0) :: e2_exp xs) (e2_isL x.1) : List ev_V) = x :: xs
    rw [h x List.mem_cons_self, ih fun v hv => h v (List.mem_cons_of_mem _ hv)]
/-- a summary out of symbolic runs; asx: the arguments made exact -/
theorem sy_smOk {l : Launch} {k nL D : Nat} {C : List ev_I} {X : List e2_X} {as : List ev_V} {E : e2_E} {f : ev_H} {res : e2_Rs} (mk : List Nat) (hen : en_ok) (hm : e2_mOk k nL C) (hX : X = (e2_mark mk C).map e2_x) (hlen : (e2_exp as).length ≤ nL) (hok : e2_okSB E.length as f res = true) (hres : e2_allR res (fun q => e2_fin res q.1 E q.2) = true)
    (hg : ∀ (d : Nat), D ≤ d → ∀ (Dg : va_G) (cA : e2_cA) (A : Nat → Prop) (ads r : List Nat) (ws : va_W) (H : Heap) (ls : Array Slot), e2_sat r E → e2_wo Dg cA A ads r ws f H → e2_fr ads r nL (e2_al nL as) ls → ∃ (alx : List ev_V) (hx : ev_H) (F' : e2_F), e2_fr ads r nL alx ls ∧ e2_wo Dg cA A ads r ws hx H ∧ (∀ G : sy_P, sy_St (sy_call l d) F' X G → G 0 alx [] E hx) ∧
      ∀ v E' h' r' ws' H', F' v E' h' = true → (∃ x, r' = r ++ x) → e2_wo Dg cA A ads r' ws' h' H' → ∃ q ∈ res, e2_wo Dg cA A ads r' ws' q.2 H' ∧ (v = (9, 0, 0) → q.1 = (9, 0, 0)) ∧ (v.1 ≠ 9 → q.1.1 ≠ 9 ∧ q.1.1 ≠ 7) ∧ ∀ w, e2_rel ads r' v w → e2_rel ads r' q.1 w) : e2_smOk l (D + 1) (k, as, E, f, res) := by
  have hok2 := e2_okSB_ok hok
  refine ⟨hok2, fun M hM d hd => ?_⟩
  obtain ⟨M', hM', hn, hpl, hC⟩ := hm
  have hM : e2_MT[k]? = some M := hM
  rw [hM] at hM'
  cases hM'
  cases d with
  | zero => omega
  | succ d =>
    refine e2_Met_ofG hpl (by rw [hn]; exact hlen) fun p e R s m args below meth c Q Dg cA A ads r0 ha => ?_
    rw [hn]
    intro r ws H locs ls vs hp hs hwo hS hfr hst
    rw [hn] at hfr
    obtain ⟨alx, hx, F', g1, g2, g3, g4⟩ := hg d (by omega) Dg cA A ads r ws H ls hs hwo hfr
    have ha2 : e2_act M d F' p l e R s m args below meth c Q Dg cA A ads r := by
      refine ha.conv fun v E' h' r' ws' H' hF' hp' hs' hwo' => ?_
      obtain ⟨q, q1, q2, q3, q4, q5⟩ := g4 v E' h' r' ws' H' hF' hp' hwo'
      obtain ⟨o1, -, o3, -, o5⟩ := hok2.1
      obtain ⟨i1, i2, -⟩ := o5 q q1
      have htk : r'.take E.length = r := by
        obtain ⟨x, rfl⟩ := hp'
        rw [← hs.1]
        simp
      have hpre : ∃ x, r' = r ++ x := hp'
      refine ⟨q.1, E, q.2, r, e2_allR_ok hres q q1, hp, hs, ?_, q3, q4, fun w hw => ?_⟩
      · have := q2.take i2
        rw [htk] at this
        exact this
      · have := e2_idv_ok i1 (q5 w hw)
        rw [htk] at this
        exact this
    have hgd := g3 _ (sy_gd mk hen hC hX ha2)
    exact hgd r ws H locs ls vs ⟨[], by simp⟩ hs g2 hS (by rw [hn]; exact g1) hst
-- a known cell made exact
section Exact
variable {D : va_G} {cA : e2_cA} {A : Nat → Prop} {ads r : List Nat} {ws : va_W} {h : ev_H} {H : Heap}
theorem ex_R {cA : e2_cA} {ads r : List Nat} {n : Nat} {f : Nat → Int32} : e2_relC cA ads r 50 (sy_R n f) (.inl (cA.1 0, n, .inl f)) := by
  refine Or.inr (Or.inl ⟨by omega, by omega, f, by rw [sy_R_len], fun j v hj => ?_⟩)
  have hjn : j < n := by have := (List.getElem?_eq_some_iff.mp hj).1; rw [sy_R_len] at this; exact this
  rw [sy_R_get hjn] at hj
  cases hj
  exact e2_rel.ex ads r (f j) 0
theorem ex_54 (hw : e2_wo D cA A ads r ws h H) {k n b lo hi : Nat} (hk : k < 133) (hc : ev_hg h k = (54, [(0, n, b), (11, lo, hi)])) : ∃ f, e2_ct ws k f ∧ (∀ j, j < n → lo ≤ ev_key (f j) ∧ ev_key (f j) ≤ hi) ∧ e2_wo D cA A ads r ws (ev_hs h k (50, sy_R n f)) H := by
  obtain ⟨a, e, q1, q2⟩ := hw.2.2.1 k hk
  rw [hc] at q2
  obtain ⟨N, b', lo', hi', f, l1, rfl, l3⟩ := q2.uni (by decide) (by decide)
  cases l1
  exact ⟨f, ⟨_, n, by rw [q1]; rfl⟩, l3, hw.abs hk q1 50 (sy_R n f) ex_R (Or.inr (by decide))⟩
theorem ex_57 (hw : e2_wo D cA A ads r ws h H) {k n b lo hi c : Nat} (hk : k < 133) (hc : ev_hg h k = (57, [(0, n, b), (11, lo, hi), (1, 1, c)])) : ∃ f, e2_ct ws k f ∧ (∀ j, j < n → lo ≤ ev_key (f j) ∧ ev_key (f j) ≤ hi) ∧ e2_wo D cA A ads r ws (ev_hs h k (50, sy_R n f)) H := by
  obtain ⟨a, e, q1, q2⟩ := hw.2.2.1 k hk
  rw [hc] at q2
  obtain ⟨N, b', lo', hi', c', f, l1, rfl, l3⟩ := q2.uni7 rfl
  cases l1
  exact ⟨f, ⟨_, n, by rw [q1]; rfl⟩, l3, hw.abs hk q1 50 (sy_R n f) ex_R (Or.inr (by decide))⟩
theorem ex_50 (hw : e2_wo D cA A ads r ws h H) {k tg : Nat} {l : List ev_V} (hk : k < 133) (ht : tg = 50 ∨ tg = 58) (hc : ev_hg h k = (tg, l)) : ∃ f, e2_ct ws k f ∧ (∀ (j : Nat) (v : ev_V), l[j]? = some v → e2_rel ads r v (.int (f j))) ∧ e2_wo D cA A ads r ws (ev_hs h k (50, sy_R l.length f)) H := by
  obtain ⟨a, e, q1, q2⟩ := hw.2.2.1 k hk
  rw [hc] at q2
  have : ∃ f : Nat → Int32, e = .inl (cA.1 0, l.length, .inl f) ∧ ∀ (j : Nat) (v : ev_V), l[j]? = some v → e2_rel ads r v (.int (f j)) := by
    rcases ht with rfl | rfl
    · exact q2.arr (by decide) (by decide)
    · exact q2.arr8 rfl
  obtain ⟨f, rfl, l3⟩ := this
  exact ⟨f, ⟨_, l.length, by rw [q1]; rfl⟩, l3, hw.abs hk q1 50 (sy_R l.length f) ex_R (Or.inr (by decide))⟩
/-- a field -/
theorem ex_fld (hw : e2_wo D cA A ads r ws h H) {k ci j : Nat} {l : List ev_V} {v : ev_V} (hk : k < 133) (hci : ci < 50) (hc : ev_hg h k = (ci, l)) (hj : l[j]? = some v) (hv : ∀ w, e2_rel ads r v w → ∃ x : Int32, w = .int x) : ∃ x : Int32, e2_rel ads r v (.int x) ∧ e2_wo D cA A ads r ws (ev_hs h k (ci, l.set j (sy_I x))) H := by
  obtain ⟨a, e, q1, q2⟩ := hw.2.2.1 k hk
  rw [hc] at q2
  obtain ⟨vs, rfl, l2, l3⟩ := q2.obj hci
  obtain ⟨w, w1, w2⟩ := l3 j v hj
  obtain ⟨x, rfl⟩ := hv w w2
  refine ⟨x, w2, hw.abs hk q1 ci (l.set j (sy_I x)) (Or.inl ⟨hci, vs, rfl, by rw [List.length_set]; exact l2, fun i u hi => ?_⟩) (Or.inr (by omega))⟩
  rw [List.getElem?_set] at hi
  by_cases hij : j = i
  · subst hij
    rw [if_pos rfl, if_pos (List.getElem?_eq_some_iff.mp hj).1] at hi
    cases hi
    exact ⟨_, w1, e2_rel.ex ads r x 0⟩
  · rw [if_neg hij] at hi
    exact l3 i u hi
theorem ex_i {v : ev_V} (hv : v.1 = 0 ∨ v.1 = 1 ∨ v.1 = 11 ∨ v.1 = 13 ∨ v.1 = 14) : ∀ w, e2_rel ads r v w → ∃ x : Int32, w = .int x := fun _ hw => hw.int hv
theorem e2_ct.same {k : Nat} {f g : Nat → Int32} (h1 : e2_ct ws k f) (h2 : e2_ct ws k g) : f = g := by
  obtain ⟨t, n, h1⟩ := h1
  obtain ⟨t', n', h2⟩ := h2
  rw [h1] at h2
  cases h2
  rfl
end Exact
