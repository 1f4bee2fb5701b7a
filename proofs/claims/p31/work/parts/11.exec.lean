noncomputable def ev_x (x : ev_I) : ev_X := (x.1, ev_sem x.1 x.2.1 x.2.2.2.1.1 x.2.2.2.1.2.1 x.2.2.2.1.2.2.1 x.2.2.2.1.2.2.2)
def ev_okL (MT : List ev_M) (own : String) (ini : Bool) (ret : Option FieldType) (cc : ByteArray) : List ev_I → Prop
  | [] => True
  | x :: r => ev_ok1 MT own ini ret x.1 x.2.1 x.2.2.1 x.2.2.2.1.1 x.2.2.2.1.2.1 x.2.2.2.1.2.2.1 x.2.2.2.1.2.2.2 x.2.2.2.2 = true ∧ decode cc x.1 = .ok (x.2.1, x.2.2.1) ∧ (∀ y r', r = y :: r' → y.1 = x.1 + x.2.2.1) ∧ ev_okL MT own ini ret cc r
theorem ev_seek_ok {MT : List ev_M} {own : String} {ini : Bool} {ret : Option FieldType} {cc : ByteArray} (t : Nat) : ∀ C : List ev_I, ev_okL MT own ini ret cc C → ∃ E, ev_seek (C.map ev_x) t = E.map ev_x ∧ ev_okL MT own ini ret cc E ∧ ∀ x r, E = x :: r → x.1 = t := by
  intro C
  induction C with
  | nil => intro _; exact ⟨[], rfl, trivial, fun _ _ h => by cases h⟩
  | cons x r ih =>
    intro h
    have hs : ev_seek ((x :: r).map ev_x) t = Bool.rec (motive := fun _ => List ev_X) (ev_seek (r.map ev_x) t) ((x :: r).map ev_x) (Nat.beq x.1 t) := rfl
    by_cases hz : Nat.beq x.1 t = true
    · rw [hs, hz]
      exact ⟨x :: r, rfl, h, fun y r' hy => by cases hy; exact Nat.eq_of_beq_eq_true hz⟩
    · rw [hs, Bool.eq_false_iff.mpr hz]
      exact ih h.2.2.2
theorem ev_pad_some (n : Nat) : ∀ {a : List ev_V} {k : List ev_V → ev_R} {r}, ev_pad n a k = some r → a.length ≤ n ∧ (∀ v ∈ a, v.1 ≤ 3) ∧ k (a ++ List.replicate (n - a.length) (9, 0, 0)) = some r := by
  induction n with
  | zero =>
    intro a k r h
    cases a with
    | nil => exact ⟨Nat.le_refl _, fun v hv => (by cases hv), h⟩
    | cons x xs => exact absurd h (by simp [ev_pad])
  | succ n ih =>
    intro a k r h
    cases a with
    | nil =>
      obtain ⟨h1, h2, h3⟩ := ih (a := []) (k := fun ys => k ((9, 0, 0) :: ys)) h
      exact ⟨Nat.zero_le _, fun v hv => (by cases hv), h3⟩
    | cons x xs =>
      have h' : (ev_if (Nat.ble x.1 3) (ev_pad n xs fun ys => k (x :: ys))) = some r := h
      obtain ⟨z1, h'⟩ := ev_if_some h'
      obtain ⟨h1, h2, h3⟩ := ih h'
      refine ⟨by simpa using h1, fun v hv => ?_, ?_⟩
      · rcases List.mem_cons.mp hv with rfl | hv
        · exact Nat.le_of_ble_eq_true z1
        · exact h2 v hv
      · have e : n + 1 - (x :: xs).length = n - xs.length := by simp
        rw [e]
        exact h3
theorem ev_sl {ads : List Nat} : ∀ {a : List ev_V} {vs : List Value}, ev_relS ads a vs → (∀ v ∈ a, v.1 ≤ 3) → (lg_sl vs).length = a.length ∧ ∀ (o i : Nat) (v : ev_V), a[i]? = some v → ∃ w, (o + i, w) ∈ lv_args o vs ∧ ev_rel ads v w := by
  intro a
  induction a with
  | nil =>
    intro vs h _
    rw [h.nil]
    exact ⟨rfl, fun o i v hi => by simp at hi⟩
  | cons x xs ih =>
    intro vs h h3
    obtain ⟨w, ws, rfl, h1, h2⟩ := h.cons
    have hc := h1.cat (h3 x List.mem_cons_self)
    obtain ⟨g1, g2⟩ := ih h2 (fun v hv => h3 v (List.mem_cons_of_mem _ hv))
    have e1 : lg_sl (w :: ws) = .val w :: lg_sl ws := by
      unfold lg_sl
      rw [List.flatMap_cons, if_neg (by rw [hc]; decide)]
      rfl
    refine ⟨by rw [e1]; simp [g1], fun o i v hi => ?_⟩
    have e2 : lv_args o (w :: ws) = (o, w) :: lv_args (o + 1) ws := by
      show (o, w) :: lv_args (if w.category = 2 then o + 2 else o + 1) ws = _
      rw [if_neg (by rw [hc]; decide)]
    rw [e2]
    cases i with
    | zero =>
      cases hi
      exact ⟨w, List.mem_cons_self, h1⟩
    | succ i =>
      rw [List.getElem?_cons_succ] at hi
      obtain ⟨w', q1, q2⟩ := g2 (o + 1) i v hi
      exact ⟨w', List.mem_cons_of_mem _ (by rw [show o + (i + 1) = o + 1 + i by omega]; exact q1), q2⟩
section EvExec
variable {p : Program} {l : Launch} {e : Env} {R : Room} {s : State} {m : MethodId} {args : Array Value} {below : List Frame} {meth : Method} {c : Code} {Q : State → Prop}
variable {cc : ByteArray} {own : String} {nL : Nat} {D : va_G} {cA : ev_cA} {A : Nat → Prop} {ads0 : List Nat} {n0 s0 d : Nat} {res : ev_V × Nat × Nat × ev_H} {call : ev_Call}
theorem ev_run_ok {MT : List ev_M} {ini : Bool} {ret : Option FieldType} (hen : en_ok) (hcx : ev_cx p R s m args c cc own nL D cA A d n0 s0 res) (hname : ini = true → meth.name = "<init>")
    (hcall : ∀ k M, MT[k]? = some M → ∀ as ns nc h r, call k as ns nc h = some r → ev_Met l M d as ns nc h r)
    (hri : ret = some .int → ∀ (pc : Nat) (ads : List Nat) (ws : va_W) (H : Heap) (locs : List Loc) (ls : Array Slot) (x : Int32), (∃ x, ads = ads0 ++ x) → ev_wo D cA A ads ws res.2.2.1 res.2.2.2 H → va_S A s.heap H locs → ¬ res.1.1 = 9 → ev_rel ads res.1 (.int x) → decode cc pc = .ok (.ireturn, 1) → W p l e R s m args below meth c H locs (res.2.2.1 - n0) (res.2.1 - s0) Q (F0 m pc ls [.int x]))
    (hrz : ret = some .boolean → ∀ (pc : Nat) (ads : List Nat) (ws : va_W) (H : Heap) (locs : List Loc) (ls : Array Slot) (x : Int32), (∃ x, ads = ads0 ++ x) → ev_wo D cA A ads ws res.2.2.1 res.2.2.2 H → va_S A s.heap H locs → ¬ res.1.1 = 9 → ev_rel ads res.1 (.int x) → (x = 0 ∨ x = 1) → decode cc pc = .ok (.ireturn, 1) → W p l e R s m args below meth c H locs (res.2.2.1 - n0) (res.2.1 - s0) Q (F0 m pc ls [.int x]))
    (hrv : ret = none → ∀ (pc : Nat) (ads : List Nat) (ws : va_W) (H : Heap) (locs : List Loc) (ls : Array Slot), (∃ x, ads = ads0 ++ x) → ev_wo D cA A ads ws res.2.2.1 res.2.2.2 H → va_S A s.heap H locs → res.1.1 = 9 → decode cc pc = .ok (.return_, 1) → W p l e R s m args below meth c H locs (res.2.2.1 - n0) (res.2.1 - s0) Q (F0 m pc ls []))
    (C : List ev_I) (hC : ev_okL MT own ini ret cc C) : ∀ (fuel : Nat) (E : List ev_I), ev_okL MT own ini ret cc E → ∀ (al st : List ev_V) (ns nc : Nat) (h : ev_H), ev_run call (C.map ev_x) fuel (E.map ev_x) al st ns nc h = some res → ∃ x r, E = x :: r ∧ ev_gd p l e R s m args below meth c Q nL D cA A ads0 n0 s0 res x.1 al st ns nc h := by
  intro fuel
  induction fuel with
  | zero => intro E hE al st ns nc h hh; exact absurd hh (by simp [ev_run])
  | succ f ih =>
    intro E hE al st ns nc h hh
    cases E with
    | nil => exact absurd hh (by simp [ev_run])
    | cons x r =>
      refine ⟨x, r, rfl, ?_⟩
      obtain ⟨o1, o2, o3, o4⟩ := hE
      have hsd := ev_sem_ok (below := below) (l := l) (e := e) (Q := Q) (ads0 := ads0) hen hcx hname hcall (fun z => hri z x.1) (fun z => hrz z x.1) (fun z => hrv z x.1) o1 o2
      refine hsd _ _ al st ns nc h hh ?_ ?_
      · intro al st ns nc h hk
        obtain ⟨y, r', hy, hg⟩ := ih r o4 al st ns nc h hk
        rw [← o3 y r' hy]
        exact hg
      · intro t al st ns nc h hk
        obtain ⟨E', e1, e2, e3⟩ := ev_seek_ok t C hC
        have hk' : ev_run call (C.map ev_x) f (ev_seek (C.map ev_x) t) al st ns nc h = some res := hk
        rw [e1] at hk'
        obtain ⟨y, r', hy, hg⟩ := ih E' e2 al st ns nc h hk'
        rw [← e3 y r' hy]
        exact hg
end EvExec
def ev_okM (XT : ev_T (Nat × List ev_X) 8) (MT : List ev_M) : Prop := ∀ (k : Nat) (M : ev_M), MT[k]? = some M → ∃ (x : ev_I) (r : List ev_I), x.1 = 0 ∧ ev_tget 8 XT k id = (M.2.2.1, (x :: r).map ev_x) ∧ ev_okL MT M.1.cls (M.1.name == "<init>") M.2.2.2 M.2.1 (x :: r) ∧ plainName M.1.cls = true
theorem ev_exec_ok {XT : ev_T (Nat × List ev_X) 8} {MT : List ev_M} {fuel : Nat} (hen : en_ok) (hM : ev_okM XT MT) (l : Launch) : ∀ (d k : Nat) (M : ev_M), MT[k]? = some M → ∀ (as : List ev_V) (ns nc : Nat) (h : ev_H) (res : ev_V × Nat × Nat × ev_H), ev_exec XT fuel d k as ns nc h = some res → ev_Met l M d as ns nc h res := by
  intro d
  induction d with
  | zero => intro k M _ as ns nc h res hh; exact absurd hh (by simp [ev_exec])
  | succ d ih =>
    intro k M hk as ns nc h res hh
    obtain ⟨x0, r0, hx0, hXT, hokL, hpl⟩ := hM k M hk
    have hh' : (ev_tget 8 XT k fun M => Prod.rec (motive := fun _ => ev_R) (fun n code => ev_pad n as fun al => ev_ok (ev_run (ev_exec XT fuel d) code fuel code al [] ns nc h) fun v ns' nc' h' => ev_if (Nat.ble nc nc') (ev_if (Nat.ble ns ns') (some (v, ns', nc', h')))) M) = some res := hh
    rw [ev_tget_k, hXT] at hh'
    obtain ⟨p1, p2, hh2⟩ := ev_pad_some _ hh'
    obtain ⟨q, hrun, hh3⟩ := ev_ok_some hh2
    obtain ⟨m1, hh3⟩ := ev_if_some hh3
    obtain ⟨m2, hh3⟩ := ev_if_some hh3
    have m1 := Nat.le_of_ble_eq_true m1
    have m2 := Nat.le_of_ble_eq_true m2
    cases hh3
    refine ⟨m1, m2, fun D cA ads ws vs sz hrel => ?_⟩
    refine Met.ofW (cc := M.2.1) (maxL := M.2.2.1) (ret := M.2.2.2) hpl rfl ?_
    intro p e s m args below meth c s₁ B hml hv
    obtain ⟨rfl, hsz, hwo, hK, hNw⟩ := hv
    subst hsz
    have hx := B.exec
    have hb := B.bytes
    have hr := B.returns
    have hts := atoms_spec (ws := ev_ws M) B.pre
    have hown : s.vm.findClass M.1.cls = some m.cls := findClass_of_methodNamed B.named
    have hlocks := B.notSynchronized
    have hin : meth.name = M.1.name := (name_of_methodNamed B.named B.method).1
    have hA : ∀ q, s.heap.size ≤ q → va_A ws s.heap.size q := fun q hq => Or.inr hq
    have hwo2 : ev_wo D cA (va_A ws s.heap.size) ads ws nc h s.heap := hwo.any (fun k q hk _ => va_A.in hk)
    have hcx : ev_cx p (headSpec (ev_ws M) (ev_rm (d + 1) (q.2.2.1 - nc) (q.2.1 - ns))).room s m vs.toArray c M.2.1 M.1.cls M.2.2.1 D cA (va_A ws s.heap.size) d nc ns (q.1, q.2.1, q.2.2.1, q.2.2.2) :=
      ⟨hx, hb, fun w hw => hts w (List.mem_cons_of_mem _ hw), hown, hK, hA, hml, rfl, rfl, by show q.2.2.1 ≤ nc + (q.2.2.1 - nc); omega, by show q.2.1 ≤ ns + (q.2.1 - ns); omega, hNw⟩
    obtain ⟨f1, f2⟩ := ev_sl hrel p2
    have hlv := lv_entry vs (n := M.2.2.1) (by rw [f1]; exact p1)
    rw [lg_entry_eq]
    have hq : ∀ (ads' : List Nat) (ws' : va_W) (H : Heap) (locs : List Loc) (v : Option Value), (∃ x, ads' = ads ++ x) → ev_wo D cA (va_A ws s.heap.size) ads' ws' q.2.2.1 q.2.2.2 H → va_S (va_A ws s.heap.size) s.heap H locs → ev_ret ads' q.1 v → ∀ t : State, t.heap = H → s.WarmedH t.vm → ev_Qc D cA ads ws s.heap.size q vs.toArray s (.returned v) t :=
      fun ads' ws' H locs v hp hwo' hS hret t ht _ => ⟨⟨ads', ws', v, rfl, hp, by rw [ht]; exact hwo', hret⟩, hS.F ht⟩
    obtain ⟨y, r, hy, -, -, hg⟩ := ev_run_ok (l := l) (e := e) (below := below) (ads0 := ads) (Q := MQ below (ev_Qc D cA ads ws s.heap.size q) vs.toArray s (q.2.2.1 - nc) (q.2.1 - ns) (va_A ws s.heap.size)) hen hcx (fun z => hin.trans (eq_of_beq z)) (fun k M hk as ns nc h r hr => ih k M hk as ns nc h r hr)
      (fun z pc ads' ws' H locs ls x hp hwo' hS h9 hrel' hd => W.iret hx hb (hr.trans z) (hq ads' ws' H locs _ hp hwo' hS (Or.inr ⟨h9, _, rfl, hrel'⟩)) hS.2.2 hd)
      (fun z pc ads' ws' H locs ls x hp hwo' hS h9 hrel' h01 hd => W.zret hx hb (hr.trans z) (by rcases h01 with rfl | rfl <;> decide) (hq ads' ws' H locs _ hp hwo' hS (Or.inr ⟨h9, _, rfl, hrel'⟩)) hS.2.2 hd)
      (fun z pc ads' ws' H locs ls hp hwo' hS h9 hd => W.vret hx hb (hr.trans z) (hq ads' ws' H locs _ hp hwo' hS (Or.inl ⟨h9, rfl⟩)) hS.2.2 hd)
      (x0 :: r0) hokL fuel (x0 :: r0) hokL _ _ _ _ _ hrun
    cases hy
    rw [hx0] at hg
    have := hg ads ws s.heap [] _ [] ⟨[], by simp⟩ (Nat.le_refl _) (Nat.le_refl _) hwo2 va_S.rf ⟨by simp; omega, _, hlv, fun i v hi hv => ?_⟩ trivial
    · rw [Nat.sub_self, Nat.sub_self] at this
      exact this
    · by_cases hil : i < as.length
      · rw [List.getElem?_append_left hil] at hi
        obtain ⟨w, q1, q2⟩ := f2 0 i v hi
        exact ⟨w, by rw [Nat.zero_add] at q1; exact q1, q2⟩
      · rw [List.getElem?_append_right (by omega)] at hi
        have := List.eq_of_mem_replicate (List.mem_of_getElem? hi)
        rw [this] at hv
        exact absurd hv (by decide)
