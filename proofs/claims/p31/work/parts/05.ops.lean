/-! THE ENGINE IS SOUND: an operation that answers takes a good frame behind it to a good frame here -/
def en_WS : List Cond := lw_tbl.filter goodWord
/-- the words of nest mates: they are carried from call to call -/
def en_isN (w : Cond) : Bool := match w with
  | .fieldLinkNest .. => true
  | .methodLinkNest .. => true
  | _ => false
def en_NW : List Cond := lw_tbl.filter en_isN
def en_N (U : State) : Prop := ∀ w ∈ en_NW, va_Nw w U
theorem en_N.warm {s U : State} (hW : s.WarmedH U.vm) (h : en_N s) : en_N U := by
  intro w hw
  have h1 := h w hw
  have h2 := (List.mem_filter.mp hw).2
  cases w
  case fieldLinkNest => exact va_Nw.warmF hW h1
  case methodLinkNest => exact va_Nw.warmM hW h1
  all_goals exact absurd h2 (by simp [en_isN])
theorem en_N.same {s U : State} (hvm : s.vm = U.vm) (h : en_N s) : en_N U := by
  intro w hw
  have h1 := h w hw
  have h2 := (List.mem_filter.mp hw).2
  cases w
  case fieldLinkNest => exact va_Nw.same rfl hvm h1
  case methodLinkNest => exact va_Nw.same rfl hvm h1
  all_goals exact absurd h2 (by simp [en_isN])
/-- the classes of arrays, and what is said of cells that stay as they are -/
abbrev ev_cA : Type := (Nat → ClassId) × (Nat → va_E)
def en_tys (cA : ev_cA) : List (ClassId × FieldType) := [(cA.1 0, .int), (cA.1 1, .byte), (cA.1 2, .boolean), (cA.1 3, .long)]
def ev_relC (cA : ev_cA) (ads : List Nat) (tag : Nat) (l : List ev_V) (e : va_E) : Prop :=
  (tag < 50 ∧ ∃ vs, e = .inr (tag, vs) ∧ vs.length = l.length ∧ ∀ (j : Nat) (v : ev_V), l[j]? = some v → ∃ w, vs[j]? = some w ∧ ev_rel ads v w) ∨
  (50 ≤ tag ∧ tag ≤ 52 ∧ ∃ f : Nat → Int32, e = .inl (cA.1 (tag - 50), l.length, .inl f) ∧ ∀ (j : Nat) (v : ev_V), l[j]? = some v → ev_rel ads v (.int (f j))) ∨
  (tag = 53 ∧ ∃ f : Nat → Int64, e = .inl (cA.1 3, l.length, .inr (.inl f))) ∨ (54 ≤ tag ∧ (60 ≤ tag → tag < 999 → e = cA.2 tag))
theorem ev_relC.mono {cA : ev_cA} {ads ads' : List Nat} {tag : Nat} {l : List ev_V} {e : va_E} (h : ev_relC cA ads tag l e) (hp : ∃ x, ads' = ads ++ x) : ev_relC cA ads' tag l e := by
  rcases h with ⟨h0, vs, h1, h2, h3⟩ | ⟨h0, h1, f, h2, h3⟩ | h
  · exact Or.inl ⟨h0, vs, h1, h2, fun j v hj => by obtain ⟨w, q1, q2⟩ := h3 j v hj; exact ⟨w, q1, q2.mono hp⟩⟩
  · exact Or.inr (Or.inl ⟨h0, h1, f, h2, fun j v hj => (h3 j v hj).mono hp⟩)
  · exact Or.inr (Or.inr h)
def ev_wo (D : va_G) (cA : ev_cA) (A : Nat → Prop) (ads : List Nat) (ws : va_W) (nc : Nat) (h : ev_H) (H : Heap) : Prop :=
  ws.map Prod.fst = ads ∧ ws.length = nc ∧ nc ≤ 256 ∧ (∀ k, k < nc → ∃ a e, ws[k]? = some (a, e) ∧ ev_relC cA ads (ev_hg h k).1 (ev_hg h k).2 e) ∧ va_P D en_classes ws H ∧ va_D A ws
theorem ev_wo.cell {D : va_G} {cA : ev_cA} {A : Nat → Prop} {ads : List Nat} {ws : va_W} {nc : Nat} {h : ev_H} {H : Heap} (hw : ev_wo D cA A ads ws nc h H) {k q : Nat} (hk : k < nc) (hq : ads[k]? = some q) : ∃ e, ws[k]? = some (q, e) ∧ ev_relC cA ads (ev_hg h k).1 (ev_hg h k).2 e := by
  obtain ⟨a, e, h1, h2⟩ := hw.2.2.2.1 k hk
  have h3 : (ws.map Prod.fst)[k]? = some a := by rw [List.getElem?_map, h1]; rfl
  rw [hw.1, hq] at h3
  cases h3
  exact ⟨e, h1, h2⟩
theorem ev_wo.set {D : va_G} {cA : ev_cA} {A : Nat → Prop} {ads : List Nat} {ws : va_W} {nc : Nat} {h : ev_H} {H H1 : Heap} (hw : ev_wo D cA A ads ws nc h H) {k q : Nat} {e e' : va_E} (hk : k < nc) (hq : ws[k]? = some (q, e)) (tag : Nat) (l : List ev_V) (hc : ev_relC cA ads tag l e') (hP : va_P D en_classes (ws.set k (q, e')) H1) (hD : va_D A (ws.set k (q, e'))) : ev_wo D cA A ads (ws.set k (q, e')) nc (ev_hs h k (tag, l)) H1 := by
  obtain ⟨h1, h2, h3, h4, -, -⟩ := hw
  have hl : k < ws.length := (List.getElem?_eq_some_iff.mp hq).1
  refine ⟨?_, by rw [List.length_set]; exact h2, h3, ?_, hP, hD⟩
  · rw [← h1]
    apply List.ext_getElem?
    intro i
    rw [List.getElem?_map, List.getElem?_map, List.getElem?_set]
    by_cases hi : k = i
    · subst hi
      rw [if_pos rfl, if_pos hl, hq]; rfl
    · rw [if_neg hi]
  · intro i hi
    rw [ev_hg_hs h _ (by omega) (by omega), List.getElem?_set]
    by_cases hik : i = k
    · subst hik
      rw [if_pos rfl, if_pos rfl, if_pos hl]
      exact ⟨q, e', rfl, hc⟩
    · rw [if_neg hik, if_neg (fun z => hik z.symm)]
      exact h4 i hi
theorem ev_wo.push {D : va_G} {cA : ev_cA} {A : Nat → Prop} {ads : List Nat} {ws : va_W} {nc : Nat} {h : ev_H} {H H1 : Heap} (hw : ev_wo D cA A ads ws nc h H) {q : Nat} {e' : va_E} (hn : nc < 256) (tag : Nat) (l : List ev_V) (hc : ev_relC cA ads tag l e') (hP : va_P D en_classes (ws ++ [(q, e')]) H1) (hD : va_D A (ws ++ [(q, e')])) : ev_wo D cA A (ads ++ [q]) (ws ++ [(q, e')]) (nc + 1) (ev_hs h nc (tag, l)) H1 := by
  obtain ⟨h1, h2, h3, h4, -, -⟩ := hw
  refine ⟨by rw [List.map_append, h1]; rfl, by rw [List.length_append, h2]; rfl, hn, ?_, hP, hD⟩
  intro i hi
  rw [ev_hg_hs h _ hn (by omega)]
  by_cases hik : i = nc
  · subst hik
    rw [if_pos rfl]
    exact ⟨q, e', by rw [List.getElem?_append_right (by omega), h2, Nat.sub_self]; rfl, hc.mono ⟨_, rfl⟩⟩
  · rw [if_neg hik]
    obtain ⟨a, e, g1, g2⟩ := h4 i (by omega)
    exact ⟨a, e, by rw [List.getElem?_append_left (by omega)]; exact g1, g2.mono ⟨_, rfl⟩⟩
def ev_fr (ads : List Nat) (nL : Nat) (al : List ev_V) (ls : Array Slot) : Prop :=
  al.length = nL ∧ ∃ lv, lv_has ls nL lv ∧ ∀ (i : Nat) (v : ev_V), al[i]? = some v → v.1 ≤ 3 → ∃ w, (i, w) ∈ lv ∧ ev_rel ads v w
theorem ev_fr.mono {ads ads' : List Nat} {nL : Nat} {al : List ev_V} {ls : Array Slot} (h : ev_fr ads nL al ls) (hp : ∃ x, ads' = ads ++ x) : ev_fr ads' nL al ls := by
  obtain ⟨h1, lv, h2, h3⟩ := h
  exact ⟨h1, lv, h2, fun i v hi hv => by obtain ⟨w, q1, q2⟩ := h3 i v hi hv; exact ⟨w, q1, q2.mono hp⟩⟩
theorem ev_fr.get {ads : List Nat} {nL : Nat} {al : List ev_V} {ls : Array Slot} (h : ev_fr ads nL al ls) {i : Nat} {v : ev_V} (hi : al[i]? = some v) (hv : v.1 ≤ 3) : ∃ w, ls[i]? = some (.val w) ∧ ev_rel ads v w := by
  obtain ⟨h1, lv, h2, h3⟩ := h
  obtain ⟨w, q1, q2⟩ := h3 i v hi hv
  exact ⟨w, h2.2.2 (i, w) q1, q2⟩
theorem ev_fr.set {ads : List Nat} {nL : Nat} {al : List ev_V} {ls' : Array Slot} {lv : List (Nat × Value)} (h1 : al.length = nL) (h3 : ∀ (i : Nat) (v : ev_V), al[i]? = some v → v.1 ≤ 3 → ∃ w, (i, w) ∈ lv ∧ ev_rel ads v w) {k : Nat} {v : ev_V} {w : Value} (hv : ev_rel ads v w) (hh : lv_has ls' nL ((k, w) :: lv.filter (fun q => !(q.1 == k) && !(q.1 + 1 == k && q.2.category == 2)))) : ev_fr ads nL (al.set k v) ls' := by
  refine ⟨by rw [List.length_set]; exact h1, _, hh, fun i v' hi hv' => ?_⟩
  rw [List.getElem?_set] at hi
  by_cases hik : k = i
  · subst hik
    rw [if_pos rfl] at hi
    split at hi
    · cases hi
      exact ⟨w, List.mem_cons_self, hv⟩
    · cases hi
  · rw [if_neg hik] at hi
    obtain ⟨w', q1, q2⟩ := h3 i v' hi hv'
    refine ⟨w', List.mem_cons_of_mem _ (List.mem_filter.mpr ⟨q1, ?_⟩), q2⟩
    have hc := q2.cat hv'
    have e1 : (i == k) = false := by simpa using fun z => hik z.symm
    simp [e1, hc]
section EvOps
variable {p : Program} {l : Launch} {e : Env} {R : Room} {s : State} {m : MethodId} {args : Array Value} {below : List Frame} {meth : Method} {c : Code} {Q : State → Prop}
variable {cc : ByteArray} {own : String} {nL : Nat} {D : va_G} {cA : ev_cA} {A : Nat → Prop} {ads0 : List Nat} {n0 s0 d : Nat} {res : ev_V × Nat × Nat × ev_H}
def ev_cx (p : Program) (R : Room) (s : State) (m : MethodId) (args : Array Value) (c : Code) (cc : ByteArray) (own : String) (nL : Nat) (D : va_G) (cA : ev_cA) (A : Nat → Prop) (d n0 s0 : Nat) (res : ev_V × Nat × Nat × ev_H) : Prop :=
  p.tables.exec = Jvm.exec ∧ c.code = cc ∧ (∀ w ∈ en_WS, w.before args s = true) ∧ s.vm.findClass own = some m.cls ∧ va_K D en_classes (en_tys cA) s ∧ (∀ q, s.heap.size ≤ q → A q) ∧ c.maxLocals = nL ∧ R.frames = d + 1 ∧ R.locals = 60 * (d + 1) ∧ res.2.2.1 ≤ n0 + R.cells ∧ res.2.1 ≤ s0 + R.slots ∧ en_N s
def ev_gd (p : Program) (l : Launch) (e : Env) (R : Room) (s : State) (m : MethodId) (args : Array Value) (below : List Frame) (meth : Method) (c : Code) (Q : State → Prop) (nL : Nat) (D : va_G) (cA : ev_cA) (A : Nat → Prop) (ads0 : List Nat) (n0 s0 : Nat) (res : ev_V × Nat × Nat × ev_H) (pc : Nat) (al st : List ev_V) (ns nc : Nat) (h : ev_H) : Prop :=
  nc ≤ res.2.2.1 ∧ ns ≤ res.2.1 ∧ ∀ (ads : List Nat) (ws : va_W) (H : Heap) (locs : List Loc) (ls : Array Slot) (vs : List Value), (∃ x, ads = ads0 ++ x) → n0 ≤ nc → s0 ≤ ns → ev_wo D cA A ads ws nc h H → va_S A s.heap H locs → ev_fr ads nL al ls → ev_relS ads st vs → W p l e R s m args below meth c H locs (nc - n0) (ns - s0) Q (F0 m pc ls vs)
def ev_sd (p : Program) (l : Launch) (e : Env) (R : Room) (s : State) (m : MethodId) (args : Array Value) (below : List Frame) (meth : Method) (c : Code) (Q : State → Prop) (nL : Nat) (D : va_G) (cA : ev_cA) (A : Nat → Prop) (ads0 : List Nat) (n0 s0 : Nat) (res : ev_V × Nat × Nat × ev_H) (call : ev_Call) (op : ev_Op) (pc len : Nat) : Prop :=
  ∀ (Kn : ev_S) (Kj : Nat → ev_S) (al st : List ev_V) (ns nc : Nat) (h : ev_H), op call Kn Kj al st ns nc h = some res →
    (∀ al st ns nc h, Kn al st ns nc h = some res → ev_gd p l e R s m args below meth c Q nL D cA A ads0 n0 s0 res (pc + len) al st ns nc h) →
    (∀ t al st ns nc h, Kj t al st ns nc h = some res → ev_gd p l e R s m args below meth c Q nL D cA A ads0 n0 s0 res t al st ns nc h) →
    ev_gd p l e R s m args below meth c Q nL D cA A ads0 n0 s0 res pc al st ns nc h
end EvOps
