/-! A CONTRACT BY HAND: a method that makes nothing, from a walk of its body; the walk may use the engine for stretches (ev_runB_ok, ev_run_ok) -/
/-- what a walk of method M's body may use; its answer is v', its heap behind it h' -/
def ev_act (l : Launch) (M : ev_M) (d ns nc : Nat) (v' : ev_V) (h' : ev_H) (p : Program) (e : Env) (s : State) (m : MethodId) (args : Array Value) (below : List Frame) (meth : Method) (c : Code) (D : va_G) (cA : ev_cA) (ads : List Nat) (A : Nat → Prop) (Q : State → Prop) : Prop :=
  (∀ (v : ev_V) (g : ev_H), ev_cx p (ev_rm (d + 1) 0 0) s m args c M.2.1 M.1.cls M.2.2.1 D cA A d nc ns (v, ns, nc, g)) ∧ ((M.1.name == "<init>") = true → meth.name = "<init>") ∧
  (M.2.2.2 = some .int → ∀ (pc : Nat) (ads' : List Nat) (ws : va_W) (H : Heap) (locs : List Loc) (ls : Array Slot) (x : Int32), (∃ x, ads' = ads ++ x) → ev_wo D cA A ads' ws nc h' H → va_S A s.heap H locs → ¬ v'.1 = 9 → ev_rel ads' v' (.int x) → decode M.2.1 pc = .ok (.ireturn, 1) → W p l e (ev_rm (d + 1) 0 0) s m args below meth c H locs 0 0 Q (F0 m pc ls [.int x])) ∧
  (M.2.2.2 = some .boolean → ∀ (pc : Nat) (ads' : List Nat) (ws : va_W) (H : Heap) (locs : List Loc) (ls : Array Slot) (x : Int32), (∃ x, ads' = ads ++ x) → ev_wo D cA A ads' ws nc h' H → va_S A s.heap H locs → ¬ v'.1 = 9 → ev_rel ads' v' (.int x) → (x = 0 ∨ x = 1) → decode M.2.1 pc = .ok (.ireturn, 1) → W p l e (ev_rm (d + 1) 0 0) s m args below meth c H locs 0 0 Q (F0 m pc ls [.int x])) ∧
  (M.2.2.2 = none → ∀ (pc : Nat) (ads' : List Nat) (ws : va_W) (H : Heap) (locs : List Loc) (ls : Array Slot), (∃ x, ads' = ads ++ x) → ev_wo D cA A ads' ws nc h' H → va_S A s.heap H locs → v'.1 = 9 → decode M.2.1 pc = .ok (.return_, 1) → W p l e (ev_rm (d + 1) 0 0) s m args below meth c H locs 0 0 Q (F0 m pc ls []))
theorem ev_Met_of {l : Launch} {M : ev_M} {d ns nc : Nat} {as : List ev_V} {h : ev_H} {v' : ev_V} {h' : ev_H} (hpl : plainName M.1.cls = true) (p1 : as.length ≤ M.2.2.1) (p2 : ∀ v ∈ as, v.1 ≤ 3)
    (body : ∀ (p : Program) (e : Env) (s : State) (m : MethodId) (args : Array Value) (below : List Frame) (meth : Method) (c : Code) (D : va_G) (cA : ev_cA) (ads : List Nat) (ws : va_W) (ls : Array Slot) (A : Nat → Prop) (Q : State → Prop), ev_act l M d ns nc v' h' p e s m args below meth c D cA ads A Q → ev_wo D cA A ads ws nc h s.heap → va_S A s.heap s.heap [] → ev_fr ads M.2.2.1 (as ++ List.replicate (M.2.2.1 - as.length) (9, 0, 0)) ls → W p l e (ev_rm (d + 1) 0 0) s m args below meth c s.heap [] 0 0 Q (F0 m 0 ls [])) : ev_Met l M (d + 1) as ns nc h (v', ns, nc, h') := by
  refine ⟨Nat.le_refl _, Nat.le_refl _, fun D cA ads ws vs sz hrel => ?_⟩
  show Met l M.1 (ev_ws M) (ev_rm (d + 1) (nc - nc) (ns - ns)) (ev_Pc D cA ads ws sz nc h vs) (ev_Qc D cA ads ws sz (v', ns, nc, h')) (nc - nc) (ns - ns) (va_A ws sz)
  rw [Nat.sub_self, Nat.sub_self]
  refine Met.ofW (cc := M.2.1) (maxL := M.2.2.1) (ret := M.2.2.2) hpl rfl ?_
  intro p e s m args below meth c s₁ B hml hv
  obtain ⟨rfl, hsz, hwo, hK, hNw⟩ := hv
  subst hsz
  have hx := B.exec
  have hb := B.bytes
  have hr := B.returns
  have hts := atoms_spec (ws := ev_ws M) B.pre
  have hown : s.vm.findClass M.1.cls = some m.cls := findClass_of_methodNamed B.named
  have hlocks := B.notSynchronized
  have hin : meth.name = M.1.name := (name_of_methodNamed B.named B.method).1
  have hA : ∀ q, s.heap.size ≤ q → va_A ws s.heap.size q := fun q hq => Or.inr hq
  have hwo2 : ev_wo D cA (va_A ws s.heap.size) ads ws nc h s.heap := hwo.any (fun k q hk _ => va_A.in hk)
  obtain ⟨f1, f2⟩ := ev_sl hrel p2
  have hlv := lv_entry vs (n := M.2.2.1) (by rw [f1]; exact p1)
  rw [lg_entry_eq]
  have hq : ∀ (ads' : List Nat) (ws' : va_W) (H : Heap) (locs : List Loc) (v : Option Value), (∃ x, ads' = ads ++ x) → ev_wo D cA (va_A ws s.heap.size) ads' ws' nc h' H → va_S (va_A ws s.heap.size) s.heap H locs → ev_ret ads' v' v → ∀ t : State, t.heap = H → s.WarmedH t.vm → ev_Qc D cA ads ws s.heap.size (v', ns, nc, h') vs.toArray s (.returned v) t :=
    fun ads' ws' H locs v hp hwo' hS hret t ht _ => ⟨⟨ads', ws', v, rfl, hp, by rw [ht]; exact hwo', hret⟩, hS.F ht⟩
  refine body p e s m vs.toArray below meth c D cA ads ws _ (va_A ws s.heap.size) _ ⟨fun v g => ⟨hx, hb, fun w hw => hts w (List.mem_cons_of_mem _ hw), hown, hK, hA, hml, rfl, rfl, by show nc ≤ nc + 0; omega, by show ns ≤ ns + 0; omega, hNw⟩, fun z => hin.trans (eq_of_beq z),
    fun z pc ads' ws' H locs ls x hp hwo' hS h9 hrel' hd => W.iret hx hb (hr.trans z) (hq ads' ws' H locs _ hp hwo' hS (Or.inr ⟨h9, _, rfl, hrel'⟩)) hS.2.2 hd,
    fun z pc ads' ws' H locs ls x hp hwo' hS h9 hrel' h01 hd => W.zret hx hb (hr.trans z) (by rcases h01 with rfl | rfl <;> decide) (hq ads' ws' H locs _ hp hwo' hS (Or.inr ⟨h9, _, rfl, hrel'⟩)) hS.2.2 hd,
    fun z pc ads' ws' H locs ls hp hwo' hS h9 hd => W.vret hx hb (hr.trans z) (hq ads' ws' H locs _ hp hwo' hS (Or.inl ⟨h9, rfl⟩)) hS.2.2 hd⟩ hwo2 va_S.rf ⟨by simp; omega, _, hlv, fun i v hi hv => ?_⟩
  by_cases hil : i < as.length
  · rw [List.getElem?_append_left hil] at hi
    obtain ⟨w, q1, q2⟩ := f2 0 i v hi
    exact ⟨w, by rw [Nat.zero_add] at q1; exact q1, q2⟩
  · rw [List.getElem?_append_right (by omega)] at hi
    have := List.eq_of_mem_replicate (List.mem_of_getElem? hi)
    rw [this] at hv
    exact absurd hv (by decide)
section EvAct
variable {l : Launch} {M : ev_M} {d ns nc : Nat} {v' : ev_V} {h' : ev_H} {p : Program} {e : Env} {s : State} {m : MethodId} {args : Array Value} {below : List Frame} {meth : Method} {c : Code} {D : va_G} {cA : ev_cA} {ads : List Nat} {A : Nat → Prop} {Q : State → Prop}
/-- a stretch by the engine, to a breakpoint -/
theorem ev_act_to (ha : ev_act l M d ns nc v' h' p e s m args below meth c D cA ads A Q) {call : ev_Call} (hcall : ∀ k M, ev_MT[k]? = some M → ∀ as ns nc h r, call k as ns nc h = some r → ev_Met l M d as ns nc h r) {C E : List ev_I} (hC : ev_okL ev_MT M.1.cls (M.1.name == "<init>") M.2.2.2 M.2.1 C) (hE : ev_okL ev_MT M.1.cls (M.1.name == "<init>") M.2.2.2 M.2.1 E) {x : ev_I} {r : List ev_I} (hx : E = x :: r) {fuel bp : Nat} {al st al' st' : List ev_V} {h h1 : ev_H}
    (hrun : ev_runB call (C.map ev_x) bp al' st' fuel (E.map ev_x) al st ns nc h = some ((8, 7, 7), ns, nc, h1)) {ads1 : List Nat} {ws : va_W} {H : Heap} {locs : List Loc} {ls : Array Slot} {vs : List Value} (hp : ∃ x, ads1 = ads ++ x) (hwo : ev_wo D cA A ads1 ws nc h H) (hS : va_S A s.heap H locs) (hfr : ev_fr ads1 M.2.2.1 al ls) (hst : ev_relS ads1 st vs)
    (hW : ∀ (ads2 : List Nat) (ws : va_W) (H : Heap) (locs : List Loc) (ls : Array Slot) (vs : List Value), (∃ x, ads2 = ads ++ x) → ev_wo D cA A ads2 ws nc h1 H → va_S A s.heap H locs → ev_fr ads2 M.2.2.1 al' ls → ev_relS ads2 st' vs → W p l e (ev_rm (d + 1) 0 0) s m args below meth c H locs 0 0 Q (F0 m bp ls vs)) : W p l e (ev_rm (d + 1) 0 0) s m args below meth c H locs 0 0 Q (F0 m x.1 ls vs) := by
  obtain ⟨hcx, hn, -, -, -⟩ := ha
  obtain ⟨y, r', hy, -, -, hg⟩ := ev_runB_ok (below := below) (l := l) (e := e) (Q := Q) (ads0 := ads) en_all (hcx (8, 7, 7) h1) hn hcall (fun ads2 ws H locs ls vs hp _ _ hwo hS hfr hst => by
    have := hW ads2 ws H locs ls vs hp hwo hS hfr hst
    rw [Nat.sub_self, Nat.sub_self]
    exact this) C hC fuel E hE al st ns nc h hrun
  have := hg ads1 ws H locs ls vs hp (Nat.le_refl _) (Nat.le_refl _) hwo hS hfr hst
  rw [hx] at hy
  cases hy
  rw [Nat.sub_self, Nat.sub_self] at this
  exact this
/-- a stretch by the engine, to the return; what it answers is among what the contract says -/
theorem ev_act_end (ha : ev_act l M d ns nc v' h' p e s m args below meth c D cA ads A Q) {call : ev_Call} (hcall : ∀ k M, ev_MT[k]? = some M → ∀ as ns nc h r, call k as ns nc h = some r → ev_Met l M d as ns nc h r) {C E : List ev_I} (hC : ev_okL ev_MT M.1.cls (M.1.name == "<init>") M.2.2.2 M.2.1 C) (hE : ev_okL ev_MT M.1.cls (M.1.name == "<init>") M.2.2.2 M.2.1 E) {x : ev_I} {r : List ev_I} (hx : E = x :: r) {fuel : Nat} {al st : List ev_V} {h : ev_H} {v : ev_V}
    (hrun : ev_run call (C.map ev_x) fuel (E.map ev_x) al st ns nc h = some (v, ns, nc, h')) (hv : ∀ (ads : List Nat) (w : Value), ev_rel ads v w → ev_rel ads v' w) (h9 : v.1 = 9 ↔ v'.1 = 9) {ads1 : List Nat} {ws : va_W} {H : Heap} {locs : List Loc} {ls : Array Slot} {vs : List Value} (hp : ∃ x, ads1 = ads ++ x) (hwo : ev_wo D cA A ads1 ws nc h H) (hS : va_S A s.heap H locs) (hfr : ev_fr ads1 M.2.2.1 al ls) (hst : ev_relS ads1 st vs) : W p l e (ev_rm (d + 1) 0 0) s m args below meth c H locs 0 0 Q (F0 m x.1 ls vs) := by
  obtain ⟨hcx, hn, hi, hz, hvd⟩ := ha
  obtain ⟨y, r', hy, -, -, hg⟩ := ev_run_ok (below := below) (l := l) (e := e) (Q := Q) (ads0 := ads) en_all (hcx v h') hn hcall
    (fun z pc ads2 ws H locs ls x hp hwo hS g9 hrel hd => by
      have := hi z pc ads2 ws H locs ls x hp hwo hS (fun q => g9 (h9.mpr q)) (hv _ _ hrel) hd
      rw [Nat.sub_self, Nat.sub_self]; exact this)
    (fun z pc ads2 ws H locs ls x hp hwo hS g9 hrel h01 hd => by
      have := hz z pc ads2 ws H locs ls x hp hwo hS (fun q => g9 (h9.mpr q)) (hv _ _ hrel) h01 hd
      rw [Nat.sub_self, Nat.sub_self]; exact this)
    (fun z pc ads2 ws H locs ls hp hwo hS g9 hd => by
      have := hvd z pc ads2 ws H locs ls hp hwo hS (h9.mp g9) hd
      rw [Nat.sub_self, Nat.sub_self]; exact this) C hC fuel E hE al st ns nc h hrun
  have := hg ads1 ws H locs ls vs hp (Nat.le_refl _) (Nat.le_refl _) hwo hS hfr hst
  rw [hx] at hy
  cases hy
  rw [Nat.sub_self, Nat.sub_self] at this
  exact this
end EvAct
