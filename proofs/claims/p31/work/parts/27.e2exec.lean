/-! A RUN of the second engine, and the contract that it shows -/
abbrev e2_I : Type := ev_I × Bool
noncomputable def e2_op (x : e2_I) : e2_Op := Bool.rec (motive := fun _ => e2_Op) (e2_sem x.1.1 x.1.2.1 x.1.2.2.2.1.1 x.1.2.2.2.1.2.1 x.1.2.2.2.1.2.2.1 x.1.2.2.2.1.2.2.2) (o2_S (e2_sem x.1.1 x.1.2.1 x.1.2.2.2.1.1 x.1.2.2.2.1.2.1 x.1.2.2.2.1.2.2.1 x.1.2.2.2.1.2.2.2)) x.2
noncomputable def e2_x (x : e2_I) : e2_X := (x.1.1, e2_op x)
def e2_okL (MT : List ev_M) (own : String) (ini : Bool) (ret : Option FieldType) (cc : ByteArray) : List e2_I → Prop
  | [] => True
  | x :: r => ev_ok1 MT own ini ret x.1.1 x.1.2.1 x.1.2.2.1 x.1.2.2.2.1.1 x.1.2.2.2.1.2.1 x.1.2.2.2.1.2.2.1 x.1.2.2.2.1.2.2.2 x.1.2.2.2.2 = true ∧ e2_x1 own ret x.1.1 x.1.2.1 x.1.2.2.1 x.1.2.2.2.1.1 x.1.2.2.2.1.2.2.1 x.1.2.2.2.1.2.2.2 x.1.2.2.2.2 = true ∧ decode cc x.1.1 = .ok (x.1.2.1, x.1.2.2.1) ∧ (∀ y r', r = y :: r' → y.1.1 = x.1.1 + x.1.2.2.1) ∧ e2_okL MT own ini ret cc r
theorem e2_seek_ok {MT : List ev_M} {own : String} {ini : Bool} {ret : Option FieldType} {cc : ByteArray} (t : Nat) : ∀ C : List e2_I, e2_okL MT own ini ret cc C → ∃ L, e2_seek (C.map e2_x) t = L.map e2_x ∧ e2_okL MT own ini ret cc L ∧ ∀ x r, L = x :: r → x.1.1 = t := by
  intro C
  induction C with
  | nil => intro _; exact ⟨[], rfl, trivial, fun _ _ h => by cases h⟩
  | cons x r ih =>
    intro h
    have hs : e2_seek ((x :: r).map e2_x) t = Bool.rec (motive := fun _ => List e2_X) (e2_seek (r.map e2_x) t) ((x :: r).map e2_x) (Nat.beq x.1.1 t) := rfl
    by_cases hz : Nat.beq x.1.1 t = true
    · rw [hs, hz]
      exact ⟨x :: r, rfl, h, fun y r' hy => by cases hy; exact Nat.eq_of_beq_eq_true hz⟩
    · rw [hs, Bool.eq_false_iff.mpr hz]
      exact ih h.2.2.2.2
section E2Exec
variable {p : Program} {l : Launch} {e : Env} {R : Room} {s : State} {m : MethodId} {args : Array Value} {below : List Frame} {meth : Method} {c : Code} {Q : State → Prop}
variable {nL : Nat} {D : va_G} {cA : e2_cA} {A : Nat → Prop} {ads r0 : List Nat} {d : Nat} {call : e2_Call} {F : e2_F} {M : ev_M} {MT : List ev_M}
/-- a frame of a method's that is under way -/
def e2_act (M : ev_M) (d : Nat) (F : e2_F) (p : Program) (l : Launch) (e : Env) (R : Room) (s : State) (m : MethodId) (args : Array Value) (below : List Frame) (meth : Method) (c : Code) (Q : State → Prop) (D : va_G) (cA : e2_cA) (A : Nat → Prop) (ads r0 : List Nat) : Prop :=
  e2_cx p R s m args c M.2.1 M.1.cls M.2.2.1 D cA A d ∧ ((M.1.name == "<init>") = true → meth.name = "<init>") ∧
  (M.2.2.2 = some .int → ∀ (pc : Nat) (r : List Nat) (ws : va_W) (H : Heap) (locs : List Loc) (ls : Array Slot) (x : Int32) (v : ev_V) (E : e2_E) (h : ev_H), (∃ x, r = r0 ++ x) → F v E h = true → e2_sat r E → e2_wo D cA A ads r ws h H → va_S A s.heap H locs → v.1 ≠ 9 → v.1 ≠ 7 → e2_rel ads r v (.int x) → decode M.2.1 pc = .ok (.ireturn, 1) → W p l e R s m args below meth c H locs 0 0 Q (F0 m pc ls [.int x])) ∧
  (M.2.2.2 = some .boolean → ∀ (pc : Nat) (r : List Nat) (ws : va_W) (H : Heap) (locs : List Loc) (ls : Array Slot) (x : Int32) (v : ev_V) (E : e2_E) (h : ev_H), (∃ x, r = r0 ++ x) → F v E h = true → e2_sat r E → e2_wo D cA A ads r ws h H → va_S A s.heap H locs → v.1 ≠ 9 → v.1 ≠ 7 → e2_rel ads r v (.int x) → (x = 0 ∨ x = 1) → decode M.2.1 pc = .ok (.ireturn, 1) → W p l e R s m args below meth c H locs 0 0 Q (F0 m pc ls [.int x])) ∧
  (M.2.2.2 = some .long → ∀ (pc : Nat) (r : List Nat) (ws : va_W) (H : Heap) (locs : List Loc) (ls : Array Slot) (x : Int64) (v : ev_V) (E : e2_E) (h : ev_H), (∃ x, r = r0 ++ x) → F v E h = true → e2_sat r E → e2_wo D cA A ads r ws h H → va_S A s.heap H locs → v.1 ≠ 9 → v.1 ≠ 7 → e2_rel ads r v (.long x) → decode M.2.1 pc = .ok (.lreturn, 1) → W p l e R s m args below meth c H locs 0 0 Q (F0 m pc ls [.long x])) ∧
  (M.2.2.2 = none → ∀ (pc : Nat) (r : List Nat) (ws : va_W) (H : Heap) (locs : List Loc) (ls : Array Slot) (E : e2_E) (h : ev_H), (∃ x, r = r0 ++ x) → F (9, 0, 0) E h = true → e2_sat r E → e2_wo D cA A ads r ws h H → va_S A s.heap H locs → decode M.2.1 pc = .ok (.return_, 1) → W p l e R s m args below meth c H locs 0 0 Q (F0 m pc ls []))
abbrev e2_gdM (M : ev_M) (p : Program) (l : Launch) (e : Env) (R : Room) (s : State) (m : MethodId) (args : Array Value) (below : List Frame) (meth : Method) (c : Code) (Q : State → Prop) (D : va_G) (cA : e2_cA) (A : Nat → Prop) (ads r0 : List Nat) : Nat → List ev_V → List ev_V → e2_E → ev_H → Prop := e2_gd p l e R s m args below meth c Q M.2.2.1 D cA A ads r0
theorem e2_step_ok (hen : en_ok) (ha : e2_act M d F p l e R s m args below meth c Q D cA A ads r0) (hcall : ∀ k M, MT[k]? = some M → ∀ as E h K, call k as E h K = true → e2_Met l M d as E h K) {x : e2_I} {rest : List e2_I} (hx : e2_okL MT M.1.cls (M.1.name == "<init>") M.2.2.2 M.2.1 (x :: rest)) : e2_sd p l e R s m args below meth c Q M.2.2.1 D cA A ads r0 call F (e2_op x) x.1.1 x.1.2.2.1 := by
  obtain ⟨hcx, hname, hri, hrz, hrl, hrv⟩ := ha
  obtain ⟨o1, o2, o3, -, -⟩ := hx
  have h := e2_sem_ok (below := below) (l := l) (e := e) (Q := Q) (ads := ads) (r0 := r0) (F := F) hen hcx hname hcall (fun z => hri z x.1.1) (fun z => hrz z x.1.1) (fun z => hrl z x.1.1) (fun z => hrv z x.1.1) o1 o2 o3
  unfold e2_op
  cases x.2
  · exact h
  · exact e2s_S h
theorem e2_run_ok (hen : en_ok) (ha : e2_act M d F p l e R s m args below meth c Q D cA A ads r0) (hcall : ∀ k M, MT[k]? = some M → ∀ as E h K, call k as E h K = true → e2_Met l M d as E h K) {bp : Nat → Bool} {cut : Nat → e2_S} (hcut : ∀ t al st E h, bp t = true → cut t al st E h = true → e2_gdM M p l e R s m args below meth c Q D cA A ads r0 t al st E h)
    (C : List e2_I) (hC : e2_okL MT M.1.cls (M.1.name == "<init>") M.2.2.2 M.2.1 C) : ∀ (fuel : Nat) (L : List e2_I), e2_okL MT M.1.cls (M.1.name == "<init>") M.2.2.2 M.2.1 L → ∀ (al st : List ev_V) (E : e2_E) (h : ev_H), e2_run call F (C.map e2_x) bp cut fuel (L.map e2_x) al st E h = true → ∃ x r, L = x :: r ∧ e2_gdM M p l e R s m args below meth c Q D cA A ads r0 x.1.1 al st E h := by
  intro fuel
  induction fuel with
  | zero => intro L hL al st E h hh; exact absurd hh (by simp [e2_run])
  | succ f ih =>
    intro L hL al st E h hh
    cases L with
    | nil => exact absurd hh (by simp [e2_run])
    | cons x r =>
      refine ⟨x, r, rfl, ?_⟩
      have hsd := e2_step_ok hen ha hcall hL
      obtain ⟨-, -, -, o3, o4⟩ := hL
      have hh : e2_el (bp x.1.1) (cut x.1.1 al st E h) (e2_op x call F (e2_run call F (C.map e2_x) bp cut f (r.map e2_x)) (fun t => e2_run call F (C.map e2_x) bp cut f (e2_seek (C.map e2_x) t)) al st E h) = true := hh
      rcases e2_el_t hh with ⟨z, g⟩ | ⟨-, g⟩
      · exact hcut x.1.1 al st E h z g
      · refine hsd _ _ al st E h g ?_ ?_
        · intro al st E h hk
          obtain ⟨y, r', hy, hg⟩ := ih r o4 al st E h hk
          rw [← o3 y r' hy]
          exact hg
        · intro t al st E h hk
          obtain ⟨L', e1, e2, e3⟩ := e2_seek_ok t C hC
          have hk' : e2_run call F (C.map e2_x) bp cut f (e2_seek (C.map e2_x) t) al st E h = true := hk
          rw [e1] at hk'
          obtain ⟨y, r', hy, hg⟩ := ih L' e2 al st E h hk'
          rw [← e3 y r' hy]
          exact hg
/-- a run from a point in the code -/
theorem e2_from (hen : en_ok) (ha : e2_act M d F p l e R s m args below meth c Q D cA A ads r0) (hcall : ∀ k M, MT[k]? = some M → ∀ as E h K, call k as E h K = true → e2_Met l M d as E h K) {bp : Nat → Bool} {cut : Nat → e2_S} (hcut : ∀ t al st E h, bp t = true → cut t al st E h = true → e2_gdM M p l e R s m args below meth c Q D cA A ads r0 t al st E h)
    {C : List e2_I} (hC : e2_okL MT M.1.cls (M.1.name == "<init>") M.2.2.2 M.2.1 C) {X : List e2_X} (hX : X = C.map e2_x) (t : Nat) {fuel : Nat} {al st : List ev_V} {E : e2_E} {h : ev_H} (hrun : e2_run call F X bp cut fuel (e2_seek X t) al st E h = true) : e2_gdM M p l e R s m args below meth c Q D cA A ads r0 t al st E h := by
  subst hX
  obtain ⟨L, e1, e2, e3⟩ := e2_seek_ok t C hC
  rw [e1] at hrun
  obtain ⟨x, r, hx, hg⟩ := e2_run_ok hen ha hcall hcut C hC fuel L e2 al st E h hrun
  rw [← e3 x r hx]
  exact hg
/-- the same, with one step ahead of the first look at the breakpoint -/
theorem e2_fromM (hen : en_ok) (ha : e2_act M d F p l e R s m args below meth c Q D cA A ads r0) (hcall : ∀ k M, MT[k]? = some M → ∀ as E h K, call k as E h K = true → e2_Met l M d as E h K) {bp : Nat → Bool} {cut : Nat → e2_S} (hcut : ∀ t al st E h, bp t = true → cut t al st E h = true → e2_gdM M p l e R s m args below meth c Q D cA A ads r0 t al st E h)
    {C : List e2_I} (hC : e2_okL MT M.1.cls (M.1.name == "<init>") M.2.2.2 M.2.1 C) {X : List e2_X} (hX : X = C.map e2_x) (t : Nat) {fuel : Nat} {al st : List ev_V} {E : e2_E} {h : ev_H} (hrun : e2_runM call F X bp cut fuel (e2_seek X t) al st E h = true) : e2_gdM M p l e R s m args below meth c Q D cA A ads r0 t al st E h := by
  subst hX
  obtain ⟨L, e1, e2, e3⟩ := e2_seek_ok t C hC
  rw [e1] at hrun
  cases L with
  | nil => exact absurd hrun (by simp [e2_runM])
  | cons x r =>
    rw [← e3 x r rfl]
    have hsd := e2_step_ok hen ha hcall e2
    obtain ⟨-, -, -, o3, o4⟩ := e2
    refine hsd _ _ al st E h hrun ?_ ?_
    · intro al st E h hk
      obtain ⟨y, r', hy, hg⟩ := e2_run_ok hen ha hcall hcut C hC fuel r o4 al st E h hk
      rw [← o3 y r' hy]
      exact hg
    · intro t al st E h hk
      obtain ⟨L', f1, f2, f3⟩ := e2_seek_ok t C hC
      have hk' : e2_run call F (C.map e2_x) bp cut fuel (e2_seek (C.map e2_x) t) al st E h = true := hk
      rw [f1] at hk'
      obtain ⟨y, r', hy, hg⟩ := e2_run_ok hen ha hcall hcut C hC fuel L' f2 al st E h hk'
      rw [← f3 y r' hy]
      exact hg
end E2Exec
theorem e2_sl {ads r : List Nat} : ∀ {a : List ev_V} {vs : List Value}, e2_relS ads r a vs → (lg_sl vs).length = (e2_exp a).length ∧ ∀ (o i : Nat) (v : ev_V), (e2_exp a)[i]? = some v → v.1 ≠ 9 → v.1 ≠ 7 ∧ ∃ w, (o + i, w) ∈ lv_args o vs ∧ e2_rel ads r v w := by
  intro a
  induction a with
  | nil =>
    intro vs h
    rw [h.nil]
    exact ⟨rfl, fun o i v hi => by simp [e2_exp] at hi⟩
  | cons x xs ih =>
    intro vs h
    obtain ⟨w, ws, rfl, h1, h7, h2⟩ := h.cons
    obtain ⟨g1, g2⟩ := ih h2
    have ee : e2_exp (x :: xs) = Bool.rec (motive := fun _ => List ev_V) (x :: e2_exp xs) (x :: (9, 0, 0) :: e2_exp xs) (e2_isL x.1) := rfl
    cases hz : e2_isL x.1 with
    | false =>
      have hc := h1.cat1 hz h7
      have e1 : lg_sl (w :: ws) = .val w :: lg_sl ws := by
        unfold lg_sl
        rw [List.flatMap_cons, if_neg (by rw [hc]; decide)]
        rfl
      rw [hz] at ee
      have ee : e2_exp (x :: xs) = x :: e2_exp xs := ee
      refine ⟨by rw [e1, ee]; simp [g1], fun o i v hi hv => ?_⟩
      have e2 : lv_args o (w :: ws) = (o, w) :: lv_args (o + 1) ws := by
        show (o, w) :: lv_args (if w.category = 2 then o + 2 else o + 1) ws = _
        rw [if_neg (by rw [hc]; decide)]
      rw [e2]
      rw [ee] at hi
      cases i with
      | zero =>
        cases hi
        exact ⟨h7, w, List.mem_cons_self, h1⟩
      | succ i =>
        rw [List.getElem?_cons_succ] at hi
        obtain ⟨z7, w', q1, q2⟩ := g2 (o + 1) i v hi hv
        exact ⟨z7, w', List.mem_cons_of_mem _ (by rw [show o + (i + 1) = o + 1 + i by omega]; exact q1), q2⟩
    | true =>
      obtain ⟨y, rfl⟩ := h1.long hz
      rw [hz] at ee
      have ee : e2_exp (x :: xs) = x :: (9, 0, 0) :: e2_exp xs := ee
      have e1 : (lg_sl (.long y :: ws)).length = (lg_sl ws).length + 2 := by
        unfold lg_sl
        rw [List.flatMap_cons, if_pos (show (Value.long y).category = 2 from rfl), List.length_append]
        simp
        omega
      refine ⟨by rw [e1, ee]; simp [g1], fun o i v hi hv => ?_⟩
      have e2 : lv_args o (.long y :: ws) = (o, .long y) :: lv_args (o + 2) ws := by
        show (o, Value.long y) :: lv_args (if (Value.long y).category = 2 then o + 2 else o + 1) ws = _
        rw [if_pos (show (Value.long y).category = 2 from rfl)]
      rw [e2]
      rw [ee] at hi
      match i, hi with
      | 0, hi =>
        cases hi
        exact ⟨h7, _, List.mem_cons_self, h1⟩
      | 1, hi =>
        cases hi
        exact absurd rfl hv
      | i + 2, hi =>
        rw [List.getElem?_cons_succ, List.getElem?_cons_succ] at hi
        obtain ⟨z7, w', q1, q2⟩ := g2 (o + 2) i v hi hv
        exact ⟨z7, w', List.mem_cons_of_mem _ (by rw [show o + (i + 2) = o + 2 + i by omega]; exact q1), q2⟩
/-- the locals at a method's entry -/
noncomputable def e2_al (n : Nat) (as : List ev_V) : List ev_V := e2_exp as ++ List.replicate (n - (e2_exp as).length) (9, 0, 0)
/-- a contract out of a walk from the entry -/
theorem e2_Met_ofG {l : Launch} {M : ev_M} {d : Nat} {as : List ev_V} {E : e2_E} {h : ev_H} {F : e2_F} (hpl : plainName M.1.cls = true) (hlen : (e2_exp as).length ≤ M.2.2.1)
    (hg : ∀ (p : Program) (e : Env) (R : Room) (s : State) (m : MethodId) (args : Array Value) (below : List Frame) (meth : Method) (c : Code) (Q : State → Prop) (D : va_G) (cA : e2_cA) (A : Nat → Prop) (ads r0 : List Nat), e2_act M d F p l e R s m args below meth c Q D cA A ads r0 → e2_gdM M p l e R s m args below meth c Q D cA A ads r0 0 (e2_al M.2.2.1 as) [] E h) : e2_Met l M (d + 1) as E h F := by
  intro D cA ads r0 ws vs sz hsat hrel
  refine Met.ofW (cc := M.2.1) (maxL := M.2.2.1) (ret := M.2.2.2) hpl rfl ?_
  intro p e s m args below meth c s₁ B hml hv
  obtain ⟨rfl, hsz, hwo, hK, hNw⟩ := hv
  subst hsz
  have hx := B.exec
  have hb := B.bytes
  have hr := B.returns
  have hts := atoms_spec (ws := ev_ws M) B.pre
  have hown : s.vm.findClass M.1.cls = some m.cls := findClass_of_methodNamed B.named
  have hin : meth.name = M.1.name := (name_of_methodNamed B.named B.method).1
  have hA : ∀ q, s.heap.size ≤ q → va_A ws s.heap.size q := fun q hq => Or.inr hq
  have hwo2 : e2_wo D cA (va_A ws s.heap.size) ads r0 ws h s.heap := hwo.any (fun k q hk _ => va_A.in hk)
  have hcx : e2_cx p (headSpec (ev_ws M) (ev_rm (d + 1) 0 0)).room s m vs.toArray c M.2.1 M.1.cls M.2.2.1 D cA (va_A ws s.heap.size) d :=
    ⟨hx, hb, fun w hw => hts w (List.mem_cons_of_mem _ hw), hown, hK, hA, hml, rfl, rfl, hNw⟩
  obtain ⟨f1, f2⟩ := e2_sl hrel
  have hlv := lv_entry vs (n := M.2.2.1) (by rw [f1]; exact hlen)
  rw [lg_entry_eq]
  have hq : ∀ (r : List Nat) (ws' : va_W) (H : Heap) (locs : List Loc) (v : ev_V) (E : e2_E) (h : ev_H) (w : Option Value), (∃ x, r = r0 ++ x) → F v E h = true → e2_sat r E → e2_wo D cA (va_A ws s.heap.size) ads r ws' h H → va_S (va_A ws s.heap.size) s.heap H locs → e2_ret ads r v w → ∀ t : State, t.heap = H → s.WarmedH t.vm → e2_Qc D cA ads r0 ws s.heap.size F vs.toArray s (.returned w) t :=
    fun r ws' H locs v E h w hp hF hs hwo' hS hret t ht _ => ⟨⟨v, E, h, r, ws', w, hF, rfl, hp, hs, by rw [ht]; exact hwo', hret⟩, hS.F ht⟩
  have hact : e2_act M d F p l e (headSpec (ev_ws M) (ev_rm (d + 1) 0 0)).room s m vs.toArray below meth c (MQ below (e2_Qc D cA ads r0 ws s.heap.size F) vs.toArray s 0 0 (va_A ws s.heap.size)) D cA (va_A ws s.heap.size) ads r0 :=
    ⟨hcx, fun z => hin.trans (eq_of_beq z),
      fun z pc r ws' H locs ls x v E h hp hF hs hwo' hS h9 h7 hrel' hd => W.iret hx hb (hr.trans z) (hq r ws' H locs v E h _ hp hF hs hwo' hS (Or.inr ⟨h9, h7, _, rfl, hrel'⟩)) hS.2.2 hd,
      fun z pc r ws' H locs ls x v E h hp hF hs hwo' hS h9 h7 hrel' h01 hd => W.zret hx hb (hr.trans z) (by rcases h01 with rfl | rfl <;> decide) (hq r ws' H locs v E h _ hp hF hs hwo' hS (Or.inr ⟨h9, h7, _, rfl, hrel'⟩)) hS.2.2 hd,
      fun z pc r ws' H locs ls x v E h hp hF hs hwo' hS h9 h7 hrel' hd => W.lret hx hb (hr.trans z) (hq r ws' H locs v E h _ hp hF hs hwo' hS (Or.inr ⟨h9, h7, _, rfl, hrel'⟩)) hS.2.2 hd,
      fun z pc r ws' H locs ls E h hp hF hs hwo' hS hd => W.vret hx hb (hr.trans z) (hq r ws' H locs _ E h _ hp hF hs hwo' hS (Or.inl ⟨rfl, rfl⟩)) hS.2.2 hd⟩
  refine hg p e _ s m vs.toArray below meth c _ D cA _ ads r0 hact r0 ws s.heap [] _ [] ⟨[], by simp⟩ hsat hwo2 va_S.rf ⟨by unfold e2_al; simp; omega, _, hlv, fun i v hi hv => ?_⟩ trivial
  unfold e2_al at hi
  by_cases hil : i < (e2_exp as).length
  · rw [List.getElem?_append_left hil] at hi
    obtain ⟨z7, w, q1, q2⟩ := f2 0 i v hi hv
    exact ⟨z7, w, by rw [Nat.zero_add] at q1; exact q1, q2⟩
  · rw [List.getElem?_append_right (by omega)] at hi
    have := List.eq_of_mem_replicate (List.mem_of_getElem? hi)
    rw [this] at hv
    exact absurd rfl hv
theorem e2_pad_t (n : Nat) : ∀ {a : List ev_V} {k : List ev_V → Bool}, e2_pad n a k = true → a.length ≤ n ∧ k (a ++ List.replicate (n - a.length) (9, 0, 0)) = true := by
  induction n with
  | zero =>
    intro a k h
    obtain ⟨rfl, h1⟩ := e2_0_t (show e2_0 a (k []) = true from h)
    exact ⟨Nat.le_refl _, h1⟩
  | succ n ih =>
    intro a k h
    cases a with
    | nil =>
      obtain ⟨h1, h3⟩ := ih (a := []) (k := fun ys => k ((9, 0, 0) :: ys)) h
      exact ⟨Nat.zero_le _, h3⟩
    | cons x xs =>
      obtain ⟨h1, h3⟩ := ih (a := xs) (k := fun ys => k (x :: ys)) h
      refine ⟨by simpa using h1, ?_⟩
      have e : n + 1 - (x :: xs).length = n - xs.length := by simp
      rw [e]
      exact h3
def e2_okM (XT : ev_T (Nat × List e2_X) 9) (MT : List ev_M) : Prop := ∀ (k : Nat) (M : ev_M), MT[k]? = some M → ∃ (x : e2_I) (r : List e2_I), x.1.1 = 0 ∧ ev_tget 9 XT k id = (M.2.2.1, (x :: r).map e2_x) ∧ e2_okL MT M.1.cls (M.1.name == "<init>") M.2.2.2 M.2.1 (x :: r) ∧ plainName M.1.cls = true
/-- what is run within is a contract -/
theorem e2_exec_ok {XT : ev_T (Nat × List e2_X) 9} {MT : List ev_M} {fuel : Nat} (hen : en_ok) (hM : e2_okM XT MT) (l : Launch) : ∀ (d k : Nat) (M : ev_M), MT[k]? = some M → ∀ (as : List ev_V) (E : e2_E) (h : ev_H) (F : e2_F), e2_exec XT fuel d k as E h F = true → e2_Met l M d as E h F := by
  intro d
  induction d with
  | zero => intro k M _ as E h F hh; exact absurd hh (by simp [e2_exec])
  | succ d ih =>
    intro k M hk as E h F hh
    obtain ⟨x0, rs0, hx0, hXT, hokL, hpl⟩ := hM k M hk
    have hh' : (ev_tget 9 XT k fun M => Prod.rec (motive := fun _ => Bool) (fun n code => e2_pad n (e2_exp as) fun al => e2_run (e2_exec XT fuel d) F code (fun _ => false) (fun _ _ _ _ _ => false) fuel code al [] E h) M) = true := hh
    rw [ev_tget_k, hXT] at hh'
    obtain ⟨p1, hh2⟩ := e2_pad_t _ hh'
    refine e2_Met_ofG hpl p1 fun p e R s m args below meth c Q D cA A ads r0 ha => ?_
    obtain ⟨y, r, hy, hg⟩ := e2_run_ok hen ha (fun k M hk as E h K hK => ih k M hk as E h K hK) (fun _ _ _ _ _ z => absurd z (by simp)) (x0 :: rs0) hokL fuel (x0 :: rs0) hokL _ _ _ _ hh2
    cases hy
    rw [hx0] at hg
    exact hg
