def ev_ret (ads : List Nat) (r : ev_V) (v : Option Value) : Prop := (r.1 = 9 ∧ v = none) ∨ (¬ r.1 = 9 ∧ ∃ w, v = some w ∧ ev_rel ads r w)
def ev_Qc (D : va_G) (cA : ev_cA) (ads : List Nat) (ws : va_W) (sz : Nat) (res : ev_V × Nat × Nat × ev_H) : Array Value → State → Outcome → State → Prop := fun _ st oc t =>
  (∃ (ads' : List Nat) (ws' : va_W) (v : Option Value), oc = .returned v ∧ (∃ x, ads' = ads ++ x) ∧ ev_wo D cA (va_A ws sz) ads' ws' res.2.2.1 res.2.2.2 t.heap ∧ ev_ret ads' res.1 v) ∧ va_F (va_A ws sz) st t
def ev_Pc (D : va_G) (cA : ev_cA) (ads : List Nat) (ws : va_W) (sz nc : Nat) (h : ev_H) (vs : List Value) : Array Value → State → Prop := va_Pc vs (fun U => U.heap.size = sz ∧ ev_wo D cA (fun _ => True) ads ws nc h U.heap ∧ va_K D en_classes (en_tys cA) U ∧ en_N U)
/-- a method's table: name, bytes, locals, return type -/
abbrev ev_M : Type := MethodName × ByteArray × Nat × Option FieldType
def ev_rm (d mc ms : Nat) : Room := { frames := d, cells := mc, slots := ms, locals := 60 * d }
def ev_ws (M : ev_M) : List Cond := .code M.1 M.2.1 M.2.2.1 M.2.2.2 :: en_WS
def ev_Met (l : Launch) (M : ev_M) (d : Nat) (as : List ev_V) (ns nc : Nat) (h : ev_H) (res : ev_V × Nat × Nat × ev_H) : Prop :=
  nc ≤ res.2.2.1 ∧ ns ≤ res.2.1 ∧ ∀ (D : va_G) (cA : ev_cA) (ads : List Nat) (ws : va_W) (vs : List Value) (sz : Nat), ev_relS ads as vs →
    Met l M.1 (ev_ws M) (ev_rm d (res.2.2.1 - nc) (res.2.1 - ns)) (ev_Pc D cA ads ws sz nc h vs) (ev_Qc D cA ads ws sz res) (res.2.2.1 - nc) (res.2.1 - ns) (va_A ws sz)
theorem ev_Pc.blind {D : va_G} {cA : ev_cA} {ads : List Nat} {ws : va_W} {sz nc : Nat} {h : ev_H} {vs : List Value} : FrameBlind (ev_Pc D cA ads ws sz nc h vs) := fun a U g mk q => by
  obtain ⟨q0, q1, q2, q3, q4⟩ := q
  exact ⟨q0, q1, q2, va_K.moved (u := U) (U := U.calling g mk a) (Vm.Alike.refl U.vm) q3, en_N.same (s := U) (U := U.calling g mk a) rfl q4⟩
theorem ev_wo.any {D : va_G} {cA : ev_cA} {A : Nat → Prop} {ads : List Nat} {ws : va_W} {nc : Nat} {h : ev_H} {H : Heap} (hw : ev_wo D cA A ads ws nc h H) {B : Nat → Prop} (hB : ∀ (k : Nat) (q : Nat × va_E), ws[k]? = some q → A q.1 → B q.1) : ev_wo D cA B ads ws nc h H := by
  obtain ⟨h1, h2, h3, h4, h5, h6⟩ := hw
  exact ⟨h1, h2, h3, h4, h5, h6.weaken hB⟩
theorem ev_cut_some (n : Nat) : ∀ {acc st : List ev_V} {k : List ev_V → List ev_V → ev_R} {r}, ev_cut n acc st k = some r → ∃ q s', st = q ++ s' ∧ q.length = n ∧ k (q.reverse ++ acc) s' = some r := by
  induction n with
  | zero => intro acc st k r h; exact ⟨[], st, rfl, rfl, h⟩
  | succ n ih =>
    intro acc st k r h
    obtain ⟨v, s1, e1, h1⟩ := ev_1_some h
    obtain ⟨q, s2, e2, e3, h2⟩ := ih h1
    refine ⟨v :: q, s2, by rw [e1, e2]; rfl, by simp [e3], ?_⟩
    rw [List.reverse_cons, List.append_assoc]
    exact h2
theorem ev_relS.split {ads : List Nat} : ∀ {q st : List ev_V} {vs : List Value}, ev_relS ads (q ++ st) vs → ∃ a b, vs = a ++ b ∧ ev_relS ads q a ∧ ev_relS ads st b := by
  intro q
  induction q with
  | nil => intro st vs h; exact ⟨[], vs, rfl, trivial, h⟩
  | cons v q ih =>
    intro st vs h
    obtain ⟨w, ws, rfl, h1, h2⟩ := ev_relS.cons h
    obtain ⟨a, b, rfl, h3, h4⟩ := ih h2
    exact ⟨w :: a, b, rfl, ⟨h1, h3⟩, h4⟩
theorem ev_relS.rev {ads : List Nat} : ∀ {q : List ev_V} {a : List Value}, ev_relS ads q a → ev_relS ads q.reverse a.reverse := by
  intro q
  induction q with
  | nil => intro a h; rw [h.nil]; exact trivial
  | cons v q ih =>
    intro a h
    obtain ⟨w, ws, rfl, h1, h2⟩ := h.cons
    rw [List.reverse_cons, List.reverse_cons]
    exact (ih h2).append ⟨h1, trivial⟩
theorem ev_ok_some {x : ev_R} {k} {r} (h : ev_ok x k = some r) : ∃ q, x = some q ∧ k q.1 q.2.1 q.2.2.1 q.2.2.2 = some r := by
  cases x with
  | none => exact absurd h (by simp [ev_ok])
  | some q => exact ⟨q, rfl, h⟩
theorem ev_back_some {v : ev_V} {Kn : ev_S} {al r : List ev_V} {ns nc : Nat} {h : ev_H} {x} (hh : ev_back v Kn al r ns nc h = some x) : (v.1 = 9 ∧ Kn al r ns nc h = some x) ∨ (¬ v.1 = 9 ∧ Kn al (v :: r) ns nc h = some x) := by
  unfold ev_back ev_p at hh
  obtain ⟨t, a, b⟩ := v
  simp only [] at hh
  by_cases hz : Nat.beq t 9 = true
  · rw [hz] at hh
    exact Or.inl ⟨Nat.eq_of_beq_eq_true hz, hh⟩
  · rw [Bool.eq_false_iff.mpr hz] at hh
    refine Or.inr ⟨fun z => hz (by rw [show t = 9 from z]; rfl), hh⟩
theorem ev_drop_some (n : Nat) : ∀ {f : List ev_V} {k : List ev_V → ev_R} {r}, ev_drop n f k = some r → n ≤ f.length ∧ k (f.drop n) = some r := by
  induction n with
  | zero => intro f k r h; exact ⟨Nat.zero_le _, h⟩
  | succ n ih =>
    intro f k r h
    obtain ⟨v, f', e1, h1⟩ := ev_1_some h
    obtain ⟨h2, h3⟩ := ih h1
    subst e1
    exact ⟨by simpa using h2, h3⟩
theorem ev_cpy_some (n : Nat) : ∀ {f g : List ev_V} {j : Nat} {k : List ev_V → ev_R} {r}, ev_cpy n f g j k = some r → ∃ g', k g' = some r ∧ g'.length = g.length ∧ n ≤ f.length ∧ (0 < n → j + n ≤ g.length) ∧ ∀ i, g'[i]? = if j ≤ i ∧ i < j + n then f[i - j]? else g[i]? := by
  induction n with
  | zero =>
    intro f g j k r h
    exact ⟨g, h, rfl, Nat.zero_le _, fun z => absurd z (by omega), fun i => by rw [if_neg (by omega)]⟩
  | succ n ih =>
    intro f g j k r h
    obtain ⟨v, f', e1, h1⟩ := ev_1_some h
    obtain ⟨h2, h3⟩ := ev_setK_some h1
    obtain ⟨g', q1, q2, q3, q4, q5⟩ := ih h3
    subst e1
    refine ⟨g', q1, by rw [q2, List.length_set], by simpa using q3, fun _ => ?_, fun i => ?_⟩
    · rw [List.length_set] at q4
      by_cases hn : 0 < n
      · have := q4 hn; omega
      · omega
    · rw [q5 i, List.getElem?_set]
      by_cases hi : j = i
      · subst hi
        rw [if_neg (by omega), if_pos rfl, if_pos h2, if_pos (by omega), Nat.sub_self]
        rfl
      · rw [if_neg hi]
        by_cases hr : j + 1 ≤ i ∧ i < j + 1 + n
        · rw [if_pos (show j.succ ≤ i ∧ i < j.succ + n from hr), if_pos (by omega), show i - j = (i - j.succ) + 1 by omega, List.getElem?_cons_succ]
        · rw [if_neg (show ¬ (j.succ ≤ i ∧ i < j.succ + n) from hr), if_neg (by omega)]
section EvCalls
variable {p : Program} {l : Launch} {e : Env} {R : Room} {s : State} {m : MethodId} {args : Array Value} {below : List Frame} {meth : Method} {c : Code} {Q : State → Prop}
variable {cc : ByteArray} {own : String} {nL : Nat} {D : va_G} {cA : ev_cA} {A : Nat → Prop} {ads0 : List Nat} {n0 s0 d : Nat} {res : ev_V × Nat × Nat × ev_H} {call : ev_Call} {pc len : Nat}
theorem ev_call {H H0 : Heap} {locs : List Loc} {cells slots mc ms : Nat} {ls : Array Slot} {st0 rest : List Value} {Qa : State → Outcome → State → Prop} {A0 A1 : Nat → Prop} {free : Addr → Prop} (hr : va_Run p l e R s m args below meth c H locs cells slots mc ms (F0 m pc ls st0) rest Qa free) (hq : ∀ st oc t, Qa st oc t → va_F A1 st t) (hS : va_S A0 H0 H locs) (hA : ∀ q, A1 q → A0 q) (hf : ∀ q, free q → A0 q)
    (kk : ∀ (v : Option Value) (st t : State) (locs1 : List Loc), Qa st (.returned v) t → s.vm.Alike t.vm → va_S A0 H0 t.heap locs1 → W p l e R s m args below meth c t.heap locs1 (cells + mc) (slots + ms) Q (F0 m (pc + 3) ls (v.toList ++ rest))) : W p l e R s m args below meth c H locs cells slots Q (F0 m pc ls st0) := by
  intro T hT X
  obtain ⟨v, st₀, t, T', L, h0, X', hL, e1, e2, hqa, st⟩ := hr T hT X
  obtain ⟨hz, hk⟩ := hq _ _ _ hqa
  rw [h0] at hz hk
  obtain ⟨t2, a1, b1⟩ := kk v st₀ t (locs ++ L) hqa (by rw [← e2]; exact X'.warmed.alike)
    ⟨Nat.le_trans hS.1 hz, fun q h1 h2 => by rw [hk q (Nat.lt_of_lt_of_le h1 hS.1) (fun z => h2 (hA q z))]; exact hS.2.1 q h1 h2, fun q hq => by
      rcases List.mem_append.mp hq with h | h
      · exact hS.2.2 q h
      · exact hf _ (hL q h)⟩ T' e1 X'
  exact ⟨t2, st t2 a1, b1⟩
/-- behind a call: the world is what the callee says, the rest of the frame stays -/
theorem es_back (hcx : ev_cx p R s m args c cc own nL D cA A d n0 s0 res) {Kn : ev_S} {al r : List ev_V} {ns nc : Nat} {h : ev_H} {q : ev_V × Nat × Nat × ev_H}
    (hn : ∀ al st ns nc h, Kn al st ns nc h = some res → ev_gd p l e R s m args below meth c Q nL D cA A ads0 n0 s0 res (pc + 3) al st ns nc h)
    (hh : (q.1.1 = 9 ∧ Kn al r q.2.1 q.2.2.1 q.2.2.2 = some res) ∨ (¬ q.1.1 = 9 ∧ Kn al (q.1 :: r) q.2.1 q.2.2.1 q.2.2.2 = some res)) (hm1 : nc ≤ q.2.2.1) (hm2 : ns ≤ q.2.1)
    {ads : List Nat} {ws : va_W} {H : Heap} {locs : List Loc} {ls : Array Slot} {vs st0 : List Value} (hp : ∃ x, ads = ads0 ++ x) (h0 : n0 ≤ nc) (h1 : s0 ≤ ns) (hwo : ev_wo D cA A ads ws nc h H) (hS : va_S A s.heap H locs) (hfr : ev_fr ads nL al ls) (hst : ev_relS ads r vs) {a : Array Value}
    (hr : q.2.2.1 - n0 ≤ R.cells → q.2.1 - s0 ≤ R.slots → va_Run p l e R s m args below meth c H locs (nc - n0) (ns - s0) (q.2.2.1 - nc) (q.2.1 - ns) (F0 m pc ls st0) vs (ev_Qc D cA ads ws H.size q a) (va_A ws H.size)) : W p l e R s m args below meth c H locs (nc - n0) (ns - s0) Q (F0 m pc ls st0) := by
  have hmm : q.2.2.1 ≤ res.2.2.1 ∧ q.2.1 ≤ res.2.1 := by
    rcases hh with ⟨-, z⟩ | ⟨-, z⟩
    · exact ⟨(hn _ _ _ _ _ z).1, (hn _ _ _ _ _ z).2.1⟩
    · exact ⟨(hn _ _ _ _ _ z).1, (hn _ _ _ _ _ z).2.1⟩
  obtain ⟨-, -, -, -, -, hA, -, -, -, c1, c2, -⟩ := hcx
  have hAA : ∀ x, va_A ws H.size x → A x := by
    intro x hx
    rcases hx with ⟨k, en, hk⟩ | hx
    · exact hwo.2.2.2.2.2.2 k _ hk
    · exact hA x (Nat.le_trans hS.1 hx)
  refine ev_call (hr (by omega) (by omega)) (A1 := va_A ws H.size) (fun st oc t hq => hq.2) hS hAA hAA ?_
  intro v st t locs1 hq hvm hS1
  obtain ⟨⟨ads', ws', v', hv, hpre, hwo', hret⟩, -⟩ := hq
  cases hv
  have e1 : nc - n0 + (q.2.2.1 - nc) = q.2.2.1 - n0 := by omega
  have e2 : ns - s0 + (q.2.1 - ns) = q.2.1 - s0 := by omega
  rw [e1, e2]
  have hwo2 := hwo'.any (B := A) (fun k x _ hx => hAA _ hx)
  have hp2 : ∃ x, ads' = ads0 ++ x := by
    obtain ⟨x, rfl⟩ := hp
    obtain ⟨y, rfl⟩ := hpre
    exact ⟨x ++ y, by rw [List.append_assoc]⟩
  rcases hh with ⟨z1, z2⟩ | ⟨z1, z2⟩
  · rcases hret with ⟨-, rfl⟩ | ⟨hx, -⟩
    · exact (hn _ _ _ _ _ z2).2.2 ads' ws' _ locs1 ls _ hp2 (by omega) (by omega) hwo2 hS1 (hfr.mono hpre) (hst.mono hpre)
    · exact absurd z1 hx
  · rcases hret with ⟨hx, -⟩ | ⟨-, w, rfl, hw⟩
    · exact absurd hx z1
    · exact (hn _ _ _ _ _ z2).2.2 ads' ws' _ locs1 ls _ hp2 (by omega) (by omega) hwo2 hS1 (hfr.mono hpre) ⟨hw, hst.mono hpre⟩
theorem ev_mono {Kn : ev_S} {al r : List ev_V} {ns nc : Nat} {q : ev_V × Nat × Nat × ev_H}
    (hn : ∀ al st ns nc h, Kn al st ns nc h = some res → ev_gd p l e R s m args below meth c Q nL D cA A ads0 n0 s0 res (pc + 3) al st ns nc h)
    (hh : (q.1.1 = 9 ∧ Kn al r q.2.1 q.2.2.1 q.2.2.2 = some res) ∨ (¬ q.1.1 = 9 ∧ Kn al (q.1 :: r) q.2.1 q.2.2.1 q.2.2.2 = some res)) (hm1 : nc ≤ q.2.2.1) (hm2 : ns ≤ q.2.1) : nc ≤ res.2.2.1 ∧ ns ≤ res.2.1 := by
  rcases hh with ⟨-, z⟩ | ⟨-, z⟩
  · exact ⟨Nat.le_trans hm1 (hn _ _ _ _ _ z).1, Nat.le_trans hm2 (hn _ _ _ _ _ z).2.1⟩
  · exact ⟨Nat.le_trans hm1 (hn _ _ _ _ _ z).1, Nat.le_trans hm2 (hn _ _ _ _ _ z).2.1⟩
theorem es_virt {k n ci N : Nat} {C : String} {T : u_T} {M : ev_M} (hlen : len = 3) (hci : ci < 50) (hC : en_classes[ci]? = some (C, T, N)) (hcx : ev_cx p R s m args c cc own nL D cA A d n0 s0 res) (hcall : ∀ as ns nc h r, call k as ns nc h = some r → ev_Met l M d as ns nc h r)
    (hrun : ∀ (H : Heap) (locs : List Loc) (cells slots mc ms : Nat) (ls : Array Slot) (rest As : List Value) (b : Nat) (Pc : Array Value → State → Prop) (Qc : Array Value → State → Outcome → State → Prop) (free : Addr → Prop), Met l M.1 (ev_ws M) (ev_rm d mc ms) Pc Qc mc ms free → PreV s H C b Pc As → As.length = n → ls.size = nL → (rest.map fun v => v.category).sum ≤ 8 → cells + mc ≤ R.cells ∧ slots + ms ≤ R.slots → va_Run p l e R s m args below meth c H locs cells slots mc ms (F0 m pc ls (As.reverse ++ .ref b :: rest)) rest (Qc (Value.ref b :: As).toArray) free) : ev_sd p l e R s m args below meth c Q nL D cA A ads0 n0 s0 res call (eo_virt k n ci) pc len := by
  subst hlen
  intro Kn Kj al st ns nc h hh hn hj
  have hq := ev_cut_some n hh
  clear hh
  obtain ⟨qs, s1, rfl, hqn, hh⟩ := hq
  have hq := ev_1_some hh
  clear hh
  obtain ⟨vo, r, rfl, hh⟩ := hq
  have hq := ev_cell_some hh
  clear hh
  obtain ⟨t1, t2, hh⟩ := hq
  have hq := ev_if_some hh
  clear hh
  obtain ⟨t3, hh⟩ := hq
  have t3 : (ev_hg h vo.2.1).1 = ci := Nat.eq_of_beq_eq_true t3
  have hq := ev_if_some hh
  clear hh
  obtain ⟨t4, hh⟩ := hq
  have hq := ev_ok_some hh
  clear hh
  obtain ⟨q, hq, hh⟩ := hq
  have hh := ev_back_some hh
  obtain ⟨m1, m2, hmet⟩ := hcall _ _ _ _ _ hq
  refine ⟨(ev_mono hn hh m1 m2).1, (ev_mono hn hh m1 m2).2, fun ads ws H locs ls vs hp h0 h1 hwo hS hfr hst => ?_⟩
  have hq := hst.split
  clear hst
  obtain ⟨aq, vs1, rfl, hs1, hst⟩ := hq
  have hq := hst.cons
  clear hst
  obtain ⟨w', vs, rfl, q3, hst⟩ := hq
  obtain ⟨b, e1, rfl⟩ := ev_rel.ref (t := vo.1) (a := vo.2.1) (b := vo.2.2) q3 t1
  obtain ⟨en, e2, e3⟩ := hwo.cell t2 e1
  obtain ⟨fs, rfl, -, -⟩ := e3.obj (by omega)
  rw [t3] at e2
  have hM := hmet D cA ads ws (.ref b :: aq.reverse) H.size ⟨q3, by simpa using hs1.rev⟩
  refine es_back hcx hn hh m1 m2 hp h0 h1 hwo hS hfr hst (a := (Value.ref b :: aq.reverse).toArray) fun b1 b2 => ?_
  have hK := hcx.2.2.2.2.1
  have hNw := hcx.2.2.2.2.2.2.2.2.2.2.2
  have := hrun H locs (nc - n0) (ns - s0) _ _ ls vs aq.reverse b _ _ _ hM ⟨ev_Pc.blind, va_recv hK hwo.2.2.2.2.1 hC e2, fun U hU hW => ⟨rfl, by rw [hU], by rw [hU]; exact hwo.any (fun _ _ _ _ => trivial), va_K.moved hW.alike hK, hNw.warm hW⟩⟩ (by rw [List.length_reverse, hs1.len]; exact hqn) hfr.2.choose_spec.1.1 (ev_small_ok hst t4) ⟨by omega, by omega⟩
  rw [List.reverse_reverse] at this
  exact this
theorem es_stat {k n : Nat} {M : ev_M} (hlen : len = 3) (hcx : ev_cx p R s m args c cc own nL D cA A d n0 s0 res) (hcall : ∀ as ns nc h r, call k as ns nc h = some r → ev_Met l M d as ns nc h r)
    (hrun : ∀ (H : Heap) (locs : List Loc) (cells slots mc ms : Nat) (ls : Array Slot) (rest As : List Value) (Pc : Array Value → State → Prop) (Qc : Array Value → State → Outcome → State → Prop) (free : Addr → Prop), Met l M.1 (ev_ws M) (ev_rm d mc ms) Pc Qc mc ms free → PreS s H Pc As → As.length = n → ls.size = nL → (rest.map fun v => v.category).sum ≤ 8 → cells + mc ≤ R.cells ∧ slots + ms ≤ R.slots → va_Run p l e R s m args below meth c H locs cells slots mc ms (F0 m pc ls (As.reverse ++ rest)) rest (Qc As.toArray) free) : ev_sd p l e R s m args below meth c Q nL D cA A ads0 n0 s0 res call (eo_stat k n) pc len := by
  subst hlen
  intro Kn Kj al st ns nc h hh hn hj
  have hq := ev_cut_some n hh
  clear hh
  obtain ⟨qs, r, rfl, hqn, hh⟩ := hq
  have hq := ev_if_some hh
  clear hh
  obtain ⟨t4, hh⟩ := hq
  have hq := ev_ok_some hh
  clear hh
  obtain ⟨q, hq, hh⟩ := hq
  have hh := ev_back_some hh
  obtain ⟨m1, m2, hmet⟩ := hcall _ _ _ _ _ hq
  refine ⟨(ev_mono hn hh m1 m2).1, (ev_mono hn hh m1 m2).2, fun ads ws H locs ls vs hp h0 h1 hwo hS hfr hst => ?_⟩
  have hq := hst.split
  clear hst
  obtain ⟨aq, vs, rfl, hs1, hst⟩ := hq
  have hM := hmet D cA ads ws aq.reverse H.size (by simpa using hs1.rev)
  refine es_back hcx hn hh m1 m2 hp h0 h1 hwo hS hfr hst (a := (aq.reverse).toArray) fun b1 b2 => ?_
  have hK := hcx.2.2.2.2.1
  have hNw := hcx.2.2.2.2.2.2.2.2.2.2.2
  have := hrun H locs (nc - n0) (ns - s0) _ _ ls vs aq.reverse _ _ _ hM ⟨ev_Pc.blind, fun U hU hW => ⟨rfl, by rw [hU], by rw [hU]; exact hwo.any (fun _ _ _ _ => trivial), va_K.moved hW.alike hK, hNw.warm hW⟩⟩ (by rw [List.length_reverse, hs1.len]; exact hqn) hfr.2.choose_spec.1.1 (ev_small_ok hst t4) ⟨by omega, by omega⟩
  rw [List.reverse_reverse] at this
  exact this
theorem es_spec {k n : Nat} {M : ev_M} (hlen : len = 3) (hcx : ev_cx p R s m args c cc own nL D cA A d n0 s0 res) (hcall : ∀ as ns nc h r, call k as ns nc h = some r → ev_Met l M d as ns nc h r)
    (hrun : ∀ (H : Heap) (locs : List Loc) (cells slots mc ms : Nat) (ls : Array Slot) (rest As : List Value) (b : Nat) (Pc : Array Value → State → Prop) (Qc : Array Value → State → Outcome → State → Prop) (free : Addr → Prop), Met l M.1 (ev_ws M) (ev_rm d mc ms) Pc Qc mc ms free → PreS s H Pc (.ref b :: As) → As.length = n → ls.size = nL → (rest.map fun v => v.category).sum ≤ 8 → cells + mc ≤ R.cells ∧ slots + ms ≤ R.slots → va_Run p l e R s m args below meth c H locs cells slots mc ms (F0 m pc ls (As.reverse ++ .ref b :: rest)) rest (Qc (Value.ref b :: As).toArray) free) : ev_sd p l e R s m args below meth c Q nL D cA A ads0 n0 s0 res call (eo_spec k n) pc len := by
  subst hlen
  intro Kn Kj al st ns nc h hh hn hj
  have hq := ev_cut_some n hh
  clear hh
  obtain ⟨qs, s1, rfl, hqn, hh⟩ := hq
  have hq := ev_1_some hh
  clear hh
  obtain ⟨vo, r, rfl, hh⟩ := hq
  have hq := ev_if_some hh
  clear hh
  obtain ⟨t1, hh⟩ := hq
  have t1 : vo.1 = 2 := Nat.eq_of_beq_eq_true t1
  have hq := ev_if_some hh
  clear hh
  obtain ⟨t4, hh⟩ := hq
  have hq := ev_ok_some hh
  clear hh
  obtain ⟨q, hq, hh⟩ := hq
  have hq := ev_if_some hh
  clear hh
  obtain ⟨t5, hh⟩ := hq
  have hh : (q.1.1 = 9 ∧ Kn al r q.2.1 q.2.2.1 q.2.2.2 = some res) ∨ (¬ q.1.1 = 9 ∧ Kn al (q.1 :: r) q.2.1 q.2.2.1 q.2.2.2 = some res) := Or.inl ⟨Nat.eq_of_beq_eq_true t5, hh⟩
  obtain ⟨m1, m2, hmet⟩ := hcall _ _ _ _ _ hq
  refine ⟨(ev_mono hn hh m1 m2).1, (ev_mono hn hh m1 m2).2, fun ads ws H locs ls vs hp h0 h1 hwo hS hfr hst => ?_⟩
  have hq := hst.split
  clear hst
  obtain ⟨aq, vs1, rfl, hs1, hst⟩ := hq
  have hq := hst.cons
  clear hst
  obtain ⟨w', vs, rfl, q3, hst⟩ := hq
  obtain ⟨b, e1, rfl⟩ := ev_rel.ref (t := vo.1) (a := vo.2.1) (b := vo.2.2) q3 t1
  have hM := hmet D cA ads ws (.ref b :: aq.reverse) H.size ⟨q3, by simpa using hs1.rev⟩
  refine es_back hcx hn hh m1 m2 hp h0 h1 hwo hS hfr hst (a := (Value.ref b :: aq.reverse).toArray) fun b1 b2 => ?_
  have hK := hcx.2.2.2.2.1
  have hNw := hcx.2.2.2.2.2.2.2.2.2.2.2
  have := hrun H locs (nc - n0) (ns - s0) _ _ ls vs aq.reverse b _ _ _ hM ⟨ev_Pc.blind, fun U hU hW => ⟨rfl, by rw [hU], by rw [hU]; exact hwo.any (fun _ _ _ _ => trivial), va_K.moved hW.alike hK, hNw.warm hW⟩⟩ (by rw [List.length_reverse, hs1.len]; exact hqn) hfr.2.choose_spec.1.1 (ev_small_ok hst t4) ⟨by omega, by omega⟩
  rw [List.reverse_reverse] at this
  exact this
theorem es_copy (hrow : ∀ (H : Heap) (locs : List Loc) (k' n' : Nat) (ls : Array Slot) (rest : List Value) (ws : va_W) (a0 a1 q0 q1 N0 N1 : Nat) (f g : Nat → Int32) (sp dp n : Int32), va_P D en_classes ws H → va_D A ws → va_S A s.heap H locs → ws[q0]? = some (a0, .inl (cA.1 0, N0, .inl f)) → ws[q1]? = some (a1, .inl (cA.1 0, N1, .inl g)) → ¬ sp < 0 → ¬ dp < 0 → ¬ n < 0 → sp.toNatClampNeg + n.toNatClampNeg ≤ N0 → dp.toNatClampNeg + n.toNatClampNeg ≤ N1 → ls.size = nL → (rest.map fun v => v.category).sum ≤ 8 →
    (∀ (H1 : Heap) (locs1 : List Loc), va_P D en_classes (ws.set q1 (a1, .inl (cA.1 0, N1, .inl (va_cpy f g sp.toNatClampNeg dp.toNatClampNeg n.toNatClampNeg)))) H1 → va_D A (ws.set q1 (a1, .inl (cA.1 0, N1, .inl (va_cpy f g sp.toNatClampNeg dp.toNatClampNeg n.toNatClampNeg)))) → va_S A s.heap H1 locs1 → W p l e R s m args below meth c H1 locs1 k' n' Q (F0 m (pc + len) ls rest)) → W p l e R s m args below meth c H locs k' n' Q (F0 m pc ls (.int n :: .int dp :: .ref a1 :: .int sp :: .ref a0 :: rest))) : ev_sd p l e R s m args below meth c Q nL D cA A ads0 n0 s0 res call eo_copy pc len := by
  intro Kn Kj al st ns nc h hh hn hj
  have hq := ev_3_some hh
  clear hh
  obtain ⟨vn, vd, v1, r1, rfl, hh⟩ := hq
  have hq := ev_2_some hh
  clear hh
  obtain ⟨vs0, v0, r, rfl, hh⟩ := hq
  have hq := ev_if_some hh
  clear hh
  obtain ⟨t4, hh⟩ := hq
  have hq := ev_cell_some hh
  clear hh
  obtain ⟨t1, t2, hh⟩ := hq
  have hq := ev_cell_some hh
  clear hh
  obtain ⟨u1, u2, hh⟩ := hq
  have hq := ev_if_some hh
  clear hh
  obtain ⟨x1, hh⟩ := hq
  have hq := ev_if_some hh
  clear hh
  obtain ⟨x2, hh⟩ := hq
  have x1 : (ev_hg h v0.2.1).1 = 50 := Nat.eq_of_beq_eq_true x1
  have x2 : (ev_hg h v1.2.1).1 = 50 := Nat.eq_of_beq_eq_true x2
  have hq := ev_if_some hh
  clear hh
  obtain ⟨x3, hh⟩ := hq
  have hq := ev_nat_some hh
  clear hh
  obtain ⟨a0, a1, hh⟩ := hq
  have hq := ev_nat_some hh
  clear hh
  obtain ⟨b0, b1, hh⟩ := hq
  have hq := ev_nat_some hh
  clear hh
  obtain ⟨c0, c1, hh⟩ := hq
  have hq := ev_if_some hh
  clear hh
  obtain ⟨c2, hh⟩ := hq
  have c2 : 0 < vn.2.1 := by simpa using c2
  have hq := ev_drop_some _ hh
  clear hh
  obtain ⟨d1, hh⟩ := hq
  have hq := ev_cpy_some _ hh
  clear hh
  obtain ⟨g', hh, y1, y2, y3, y4⟩ := hq
  rw [ev_tset_k] at hh
  obtain ⟨g1, g2, g3⟩ := hn _ _ _ _ _ hh
  refine ⟨g1, g2, fun ads ws H locs ls vs hp h0 h1 hwo hS hfr hst => ?_⟩
  have hq := hst.cons
  clear hst
  obtain ⟨w1, vs, rfl, q1, hst⟩ := hq
  have hq := hst.cons
  clear hst
  obtain ⟨w2, vs, rfl, q2, hst⟩ := hq
  have hq := hst.cons
  clear hst
  obtain ⟨w3, vs, rfl, q3, hst⟩ := hq
  have hq := hst.cons
  clear hst
  obtain ⟨w4, vs, rfl, q4, hst⟩ := hq
  have hq := hst.cons
  clear hst
  obtain ⟨w5, vs, rfl, q5, hst⟩ := hq
  obtain ⟨n, rfl, en, -⟩ := ev_rel.int (t := vn.1) (a := vn.2.1) (b := vn.2.2) q1 (by omega)
  obtain ⟨dp, rfl, ed, -⟩ := ev_rel.int (t := vd.1) (a := vd.2.1) (b := vd.2.2) q2 (by omega)
  obtain ⟨sp, rfl, es, -⟩ := ev_rel.int (t := vs0.1) (a := vs0.2.1) (b := vs0.2.2) q4 (by omega)
  obtain ⟨ad1, e1, rfl⟩ := ev_rel.ref (t := v1.1) (a := v1.2.1) (b := v1.2.2) q3 u1
  obtain ⟨ad0, e2, rfl⟩ := ev_rel.ref (t := v0.1) (a := v0.2.1) (b := v0.2.2) q5 t1
  have en := en c0
  have ed := ed b0
  have es := es a0
  subst en; subst ed; subst es
  obtain ⟨en1, f1, f2⟩ := hwo.cell u2 e1
  obtain ⟨en0, f3, f4⟩ := hwo.cell t2 e2
  obtain ⟨g, rfl, f5⟩ := f2.arr (by omega) (by omega)
  obtain ⟨f, rfl, f6⟩ := f4.arr (by omega) (by omega)
  rw [x2] at f1
  rw [x1] at f3
  rw [List.length_drop] at y2
  have y3 := y3 c2
  have k1 := ev_cl a1
  have k2 := ev_cl b1
  have k3 := ev_cl c1
  refine hrow _ _ _ _ _ _ ws ad0 ad1 _ _ _ _ f g _ _ _ hwo.2.2.2.2.1 hwo.2.2.2.2.2 hS f3 f1 (nI_pos (show vs0.2.1 < 2 ^ 31 by omega)) (nI_pos (show vd.2.1 < 2 ^ 31 by omega)) (nI_pos (show vn.2.1 < 2 ^ 31 by omega)) (by omega) (by omega) hfr.2.choose_spec.1.1 (ev_small_ok hst t4) fun H1 locs1 hP hD hS1 => ?_
  refine g3 ads _ H1 locs1 ls _ hp h0 h1 (hwo.set u2 f1 _ _ ?_ hP hD) hS1 hfr hst
  rw [k1, k2, k3]
  refine Or.inr (Or.inl ⟨by omega, by omega, _, by rw [y1], fun j v' hj' => ?_⟩)
  rw [y4 j] at hj'
  simp only [va_cpy]
  by_cases hr : vd.2.1 ≤ j ∧ j < vd.2.1 + vn.2.1
  · rw [if_pos hr] at hj' ⊢
    rw [List.getElem?_drop] at hj'
    exact f6 _ v' hj'
  · rw [if_neg hr] at hj' ⊢
    exact f5 j v' hj'
theorem es_min (hcx : ev_cx p R s m args c cc own nL D cA A d n0 s0 res) (hrow : ∀ (H : Heap) (locs : List Loc) (k n : Nat) (ls : Array Slot) (rest : List Value) (x y : Int32), ls.size = nL → (rest.map fun v => v.category).sum ≤ 8 → k ≤ R.cells → n ≤ R.slots → W p l e R s m args below meth c H locs k n Q (F0 m (pc + len) ls (.int (eb_min x y) :: rest)) → W p l e R s m args below meth c H locs k n Q (F0 m pc ls (.int y :: .int x :: rest))) : ev_sd p l e R s m args below meth c Q nL D cA A ads0 n0 s0 res call eo_min pc len := by
  intro Kn Kj al st ns nc h hh hn hj
  have hq := ev_2_some hh
  clear hh
  obtain ⟨vb, va, r, rfl, hh⟩ := hq
  have hq := ev_if_some hh
  clear hh
  obtain ⟨t4, hh⟩ := hq
  have hq := ev_bin_some hh
  clear hh
  obtain ⟨e1, e2, cv, hh, hc⟩ := hq
  obtain ⟨g1, g2, g3⟩ := hn _ _ _ _ _ hh
  refine ⟨g1, g2, fun ads ws H locs ls vs hp h0 h1 hwo hS hfr hst => ?_⟩
  have hq := hst.cons
  clear hst
  obtain ⟨w, vs, rfl, q2, hst⟩ := hq
  have hq := hst.cons
  clear hst
  obtain ⟨w', vs, rfl, q3, hst⟩ := hq
  obtain ⟨y, rfl, -⟩ := ev_rel.int (t := vb.1) (a := vb.2.1) (b := vb.2.2) q2 e2
  obtain ⟨x, rfl, -⟩ := ev_rel.int (t := va.1) (a := va.2.1) (b := va.2.2) q3 e1
  obtain ⟨-, -, -, -, -, -, -, -, -, c1, c2, -⟩ := hcx
  exact hrow _ _ _ _ _ _ x y hfr.2.choose_spec.1.1 (ev_small_ok hst t4) (by omega) (by omega) (g3 ads ws H locs ls _ hp h0 h1 hwo hS hfr ⟨hc ads x y q3 q2, hst⟩)
theorem es_iret {kd : Nat} (hfin : ∀ (ads : List Nat) (ws : va_W) (H : Heap) (locs : List Loc) (ls : Array Slot) (w : Value), (∃ x, ads = ads0 ++ x) → ev_wo D cA A ads ws res.2.2.1 res.2.2.2 H → va_S A s.heap H locs → ¬ res.1.1 = 9 → ev_rel ads res.1 w → ev_fits kd w → W p l e R s m args below meth c H locs (res.2.2.1 - n0) (res.2.1 - s0) Q (F0 m pc ls [w])) : ev_sd p l e R s m args below meth c Q nL D cA A ads0 n0 s0 res call (eo_iret kd) pc len := by
  intro Kn Kj al st ns nc h hh hn hj
  have hq := ev_1_some hh
  clear hh
  obtain ⟨v, r, rfl, hh⟩ := hq
  have hq := ev_if_some hh
  clear hh
  obtain ⟨t1, hh⟩ := hq
  have hq := ev_0_some hh
  clear hh
  obtain ⟨rfl, hh⟩ := hq
  cases hh
  refine ⟨Nat.le_refl _, Nat.le_refl _, fun ads ws H locs ls vs hp h0 h1 hwo hS hfr hst => ?_⟩
  have hq := hst.cons
  clear hst
  obtain ⟨w, vs, rfl, q2, hst⟩ := hq
  have hst := hst.nil
  subst hst
  refine hfin ads ws H locs ls w hp hwo hS ?_ q2 (ev_kind_ok t1 q2)
  intro z
  rcases q2 with ⟨h0, -⟩ | ⟨h0, -⟩ | ⟨h0, -⟩ | ⟨h0, -⟩ | ⟨h0, -⟩ | ⟨h0, -⟩ <;> have z : v.1 = 9 := z <;> omega
theorem es_vret (hfin : ∀ (ads : List Nat) (ws : va_W) (H : Heap) (locs : List Loc) (ls : Array Slot), (∃ x, ads = ads0 ++ x) → ev_wo D cA A ads ws res.2.2.1 res.2.2.2 H → va_S A s.heap H locs → res.1.1 = 9 → W p l e R s m args below meth c H locs (res.2.2.1 - n0) (res.2.1 - s0) Q (F0 m pc ls [])) : ev_sd p l e R s m args below meth c Q nL D cA A ads0 n0 s0 res call eo_vret pc len := by
  intro Kn Kj al st ns nc h hh hn hj
  have hq := ev_0_some hh
  clear hh
  obtain ⟨rfl, hh⟩ := hq
  cases hh
  refine ⟨Nat.le_refl _, Nat.le_refl _, fun ads ws H locs ls vs hp h0 h1 hwo hS hfr hst => ?_⟩
  have hst := hst.nil
  subst hst
  exact hfin ads ws H locs ls hp hwo hS rfl
end EvCalls
