def en_ty (q : vw_C) (k : Nat) : FieldType := (parseFieldDescriptor (q.2.1 k).2.2.1).getD .int
def en_ok : Prop := ∀ q ∈ en_classes, (∀ w ∈ u_ws q.1 q.2.1 q.2.2, w ∈ en_WS) ∧ (∀ k, k < q.2.2 → parseFieldDescriptor (q.2.1 k).2.2.1 = some (en_ty q k)) ∧ ∀ a, a < q.2.2 → ∀ b, b < q.2.2 → a ≠ b → (q.2.1 a).2.1 ≠ (q.2.1 b).2.1
theorem ev_fits_ty {d : String} {ty : FieldType} {kd : Nat} {w : Value} (hd : parseFieldDescriptor d = some ty) (hk : ev_kd d = kd) (hk3 : kd ≤ 3) (hw : ev_fits kd w) : narrow ty w = w ∧ fits ty w = true := by
  unfold ev_kd at hk
  rw [hd] at hk
  cases ty <;> simp only [] at hk <;> subst hk
  case int => obtain ⟨x, rfl⟩ := hw; exact ⟨rfl, rfl⟩
  case boolean =>
    obtain ⟨x, rfl, hx⟩ := hw
    rcases hx with rfl | rfl
    · exact ⟨by decide, by decide⟩
    · exact ⟨by decide, by decide⟩
  case object => rcases hw with rfl | ⟨a, rfl⟩ <;> exact ⟨rfl, rfl⟩
  case array => rcases hw with rfl | ⟨a, rfl⟩ <;> exact ⟨rfl, rfl⟩
  case long => obtain ⟨x, rfl⟩ := hw; exact ⟨rfl, rfl⟩
  all_goals omega
theorem ev_sameA {D : va_G} {cl : List vw_C} {tys : List (ClassId × FieldType)} {s : State} {t : Nat} {c0 c1 : ClassId} {ty : FieldType} (hK : va_K D cl tys s) (hK' : va_K D cl (tys ++ [(c1, ty)]) s) (ht : tys[t]? = some (c0, ty)) (hp : ∀ C, ty ≠ .object C) (hl : tys.length = 4) : c1 = c0 := by
  have h1 := (hK.2 t _ ht).2
  have h2 := (hK'.2 4 (c1, ty) (by rw [List.getElem?_append_right (by omega), hl]; rfl)).2
  cases ty
  case object C => exact absurd rfl (hp C)
  all_goals exact Option.some.inj (h2.symm.trans h1)
theorem ev_newC {cA : ev_cA} {t : Nat} (ht : t ≤ 2) (N : Nat) (ads : List Nat) : ev_relC cA ads (50 + t) (List.replicate N (0, 0, 0)) (.inl (cA.1 t, N, .inl (fun _ => 0))) := by
  refine Or.inr (Or.inl ⟨by omega, by omega, fun _ => 0, by rw [List.length_replicate, Nat.add_sub_cancel_left], fun j v hj => ?_⟩)
  have hv : v = (0, 0, 0) := List.eq_of_mem_replicate (List.mem_of_getElem? hj)
  subst hv
  exact Or.inl ⟨rfl, rfl⟩
theorem ev_dflt {d : String} {ty : FieldType} (hd : parseFieldDescriptor d = some ty) (hk : ev_kd d ≤ 3) (ads : List Nat) : ev_rel ads (match ev_kd d with | 0 => (0, 0, 0) | 1 => (0, 0, 0) | 2 => (3, 0, 0) | _ => (4, 0, 0)) (defaultValue ty) := by
  unfold ev_kd at hk ⊢
  rw [hd] at hk ⊢
  cases ty
  case int => exact Or.inl ⟨rfl, rfl⟩
  case boolean => exact Or.inl ⟨rfl, rfl⟩
  case object => exact Or.inr (Or.inr (Or.inr (Or.inl ⟨rfl, rfl⟩)))
  case array => exact Or.inr (Or.inr (Or.inr (Or.inl ⟨rfl, rfl⟩)))
  case long => exact Or.inr (Or.inr (Or.inr (Or.inr (Or.inl ⟨rfl, rfl⟩))))
  all_goals exact absurd hk (by simp)
theorem ev_lkp : ∀ (L : List (Int × Int)) (a dd k : Int), L.map (fun q => q.1) = (List.range L.length).map (fun (j : Nat) => a + (j : Int)) → ((k < a ∨ a + L.length ≤ k) → Op.lookupswitch.offset L dd k = dd) ∧ ∀ (j : Nat) (q : Int × Int), L[j]? = some q → k = a + j → Op.lookupswitch.offset L dd k = q.2 := by
  intro L
  induction L with
  | nil => intro a dd k _; exact ⟨fun _ => rfl, fun j q hj => by simp at hj⟩
  | cons x xs ih =>
    intro a dd k h
    obtain ⟨x1, x2⟩ := x
    rw [List.length_cons, List.range_succ_eq_map, List.map_cons, List.map_cons, List.map_map] at h
    have e1 : x1 = a + ((0 : Nat) : Int) := (List.cons.inj h).1
    have e2 := (List.cons.inj h).2
    obtain ⟨g1, g2⟩ := ih (a + 1) dd k (by
      rw [e2]
      apply List.map_congr_left
      intro j _
      show a + ((j + 1 : Nat) : Int) = a + 1 + (j : Int)
      omega)
    rw [Op.lookupswitch.offset_cons]
    refine ⟨fun hk => ?_, fun j q hj hk => ?_⟩
    · rw [List.length_cons] at hk
      rw [if_neg (by omega)]
      exact g1 (by omega)
    · cases j with
      | zero =>
        cases hj
        rw [if_pos (by omega)]
      | succ j =>
        rw [List.getElem?_cons_succ] at hj
        rw [if_neg (by omega)]
        exact g2 j q hj (by omega)
section EvSem
variable {p : Program} {l : Launch} {e : Env} {R : Room} {s : State} {m : MethodId} {args : Array Value} {below : List Frame} {meth : Method} {c : Code} {Q : State → Prop}
variable {cc : ByteArray} {own : String} {nL : Nat} {D : va_G} {cA : ev_cA} {A : Nat → Prop} {ads0 : List Nat} {n0 s0 d : Nat} {res : ev_V × Nat × Nat × ev_H} {call : ev_Call} {pc len : Nat}
theorem es_none : ev_sd p l e R s m args below meth c Q nL D cA A ads0 n0 s0 res call eo_none pc len := by
  intro Kn Kj al st ns nc h hh
  exact absurd hh (by simp [eo_none])
theorem ev_goodIn {M : ev_M} (h : Cond.code M.1 M.2.1 M.2.2.1 M.2.2.2 ∈ en_WS) : GoodIn en_WS (ev_ws M) := by
  intro w hw
  rcases List.mem_cons.mp hw with rfl | hw
  · exact ⟨h, good_of_word (List.mem_filter.mp h).2⟩
  · exact ⟨hw, good_of_word (List.mem_filter.mp hw).2⟩
theorem ev_nop_ok {ws : List Nat} {idx : Nat} {MT : List ev_M} {h1 h2 h3 : Nat} {f : ev_M → Bool} (h : ev_nop ws own idx MT h1 h2 h3 f = true) : ∃ M, MT[h1]? = some M ∧ f M = true ∧ (h3 = 1 → Cond.methodLinkNest own idx M.1 "MeadowSigns" ∈ en_NW) ∧ (¬ h3 = 1 → Cond.methodLink own idx M.1 ∈ en_WS) ∧ Cond.code M.1 M.2.1 M.2.2.1 M.2.2.2 ∈ en_WS ∧ Cond.initialized M.1.cls ∈ en_WS ∧ (M.1.cls ≠ "java/lang/invoke/MethodHandle" ∧ M.1.cls ≠ "java/lang/invoke/VarHandle" ∧ (parseMethodDescriptor M.1.desc).map (fun d => d.parameters.length) = some h2) ∧ M.2.2.1 ≤ 41 := by
  unfold ev_nop at h
  cases hM : MT[h1]? with
  | none => rw [hM] at h; exact absurd h (by simp)
  | some M =>
    rw [hM] at h
    simp only [Bool.and_eq_true, decide_eq_true_eq] at h
    obtain ⟨a1, a2, a3, a4, a5, a6⟩ := h
    refine ⟨M, rfl, a1, fun z => ?_, fun z => ?_, ev_w_in a3, ev_w_in a4, a5, a6⟩
    · rw [if_pos z] at a2; exact ev_wn_in a2
    · rw [if_neg z] at a2; exact ev_w_in a2
theorem ev_callB {M : ev_M} {idx n mc ms : Nat} (hcx : ev_cx p R s m args c cc own nL D cA A d n0 s0 res) (h1 : Cond.methodLink own idx M.1 ∈ en_WS) (h2 : Cond.code M.1 M.2.1 M.2.2.1 M.2.2.2 ∈ en_WS) (h3 : Cond.initialized M.1.cls ∈ en_WS) (h4 : M.1.cls ≠ "java/lang/invoke/MethodHandle" ∧ M.1.cls ≠ "java/lang/invoke/VarHandle" ∧ (parseMethodDescriptor M.1.desc).map (fun d => d.parameters.length) = some n) (h5 : M.2.2.1 ≤ 41) : CallB R s args own idx M.1 M.2.1 M.2.2.1 M.2.2.2 (ev_ws M) (ev_rm d mc ms) mc ms n := by
  obtain ⟨-, -, hts, -, -, -, -, r1, r2, -, -, -⟩ := hcx
  exact callB_of n hts (ev_goodIn h2) rfl rfl rfl (hts _ h3) (hts _ h1) h4 ⟨by rw [r1]; exact Nat.le_refl _, by rw [r2]; show 8 + (M.2.2.1 + 11) + 60 * d ≤ _; omega⟩
theorem ev_callN {M : ev_M} {idx n mc ms : Nat} (hcx : ev_cx p R s m args c cc own nL D cA A d n0 s0 res) (h1 : Cond.methodLinkNest own idx M.1 "MeadowSigns" ∈ en_NW) (h2 : Cond.code M.1 M.2.1 M.2.2.1 M.2.2.2 ∈ en_WS) (h3 : Cond.initialized M.1.cls ∈ en_WS) (h4 : M.1.cls ≠ "java/lang/invoke/MethodHandle" ∧ M.1.cls ≠ "java/lang/invoke/VarHandle" ∧ (parseMethodDescriptor M.1.desc).map (fun d => d.parameters.length) = some n) (h5 : M.2.2.1 ≤ 41) : va_CN R s args own idx M.1 "MeadowSigns" M.2.1 M.2.2.1 M.2.2.2 (ev_ws M) (ev_rm d mc ms) mc ms n := by
  obtain ⟨-, -, hts, -, -, -, -, r1, r2, -, -, hNw⟩ := hcx
  exact va_cnB n hts (ev_goodIn h2) rfl rfl rfl (hNw _ h1) (hts _ h3) h4 ⟨by rw [r1]; exact Nat.le_refl _, by rw [r2]; show 8 + (M.2.2.1 + 11) + 60 * d ≤ _; omega⟩
set_option maxHeartbeats 4000000 in
theorem ev_sem_ok {MT : List ev_M} {ini : Bool} {ret : Option FieldType} {ins : Instr} {h1 h2 h3 h4 : Nat} {ws : List Nat} (hen : en_ok) (hcx : ev_cx p R s m args c cc own nL D cA A d n0 s0 res) (hname : ini = true → meth.name = "<init>")
    (hcall : ∀ k M, MT[k]? = some M → ∀ as ns nc h r, call k as ns nc h = some r → ev_Met l M d as ns nc h r)
    (hri : ret = some .int → ∀ (ads : List Nat) (ws : va_W) (H : Heap) (locs : List Loc) (ls : Array Slot) (x : Int32), (∃ x, ads = ads0 ++ x) → ev_wo D cA A ads ws res.2.2.1 res.2.2.2 H → va_S A s.heap H locs → ¬ res.1.1 = 9 → ev_rel ads res.1 (.int x) → decode cc pc = .ok (.ireturn, 1) → W p l e R s m args below meth c H locs (res.2.2.1 - n0) (res.2.1 - s0) Q (F0 m pc ls [.int x]))
    (hrz : ret = some .boolean → ∀ (ads : List Nat) (ws : va_W) (H : Heap) (locs : List Loc) (ls : Array Slot) (x : Int32), (∃ x, ads = ads0 ++ x) → ev_wo D cA A ads ws res.2.2.1 res.2.2.2 H → va_S A s.heap H locs → ¬ res.1.1 = 9 → ev_rel ads res.1 (.int x) → (x = 0 ∨ x = 1) → decode cc pc = .ok (.ireturn, 1) → W p l e R s m args below meth c H locs (res.2.2.1 - n0) (res.2.1 - s0) Q (F0 m pc ls [.int x]))
    (hrv : ret = none → ∀ (ads : List Nat) (ws : va_W) (H : Heap) (locs : List Loc) (ls : Array Slot), (∃ x, ads = ads0 ++ x) → ev_wo D cA A ads ws res.2.2.1 res.2.2.2 H → va_S A s.heap H locs → res.1.1 = 9 → decode cc pc = .ok (.return_, 1) → W p l e R s m args below meth c H locs (res.2.2.1 - n0) (res.2.1 - s0) Q (F0 m pc ls []))
    (hok : ev_ok1 MT own ini ret pc ins len h1 h2 h3 h4 ws = true) (hdg : decode cc pc = .ok (ins, len)) : ev_sd p l e R s m args below meth c Q nL D cA A ads0 n0 s0 res call (ev_sem pc ins h1 h2 h3 h4) pc len := by
  have hcx' := hcx
  obtain ⟨hx, hb, hts, hown, hK, hA, hml, r1, r2, r3, r4, hNw⟩ := hcx'
  cases ins
  case iconst i =>
    have hl : len = 1 := of_decide_eq_true hok
    subst hl
    exact es_push (fun ads => ev_rel.ex ads _ 0) fun H locs k n ls rest hk => lv_iconst hx hb hdg rfl hk
  case bipush i =>
    have hl : len = 2 := of_decide_eq_true hok
    subst hl
    exact es_push (fun ads => ev_rel.ex ads _ 0) fun H locs k n ls rest hk => lv_bipush hx hb hdg rfl hk
  case sipush i =>
    have hl : len = 3 := of_decide_eq_true hok
    subst hl
    exact es_push (fun ads => ev_rel.ex ads _ 0) fun H locs k n ls rest hk => lv_sipush hx hb hdg rfl hk
  case ldc idx =>
    simp only [ev_ok1, Bool.and_eq_true, Bool.or_eq_true, decide_eq_true_eq] at hok
    obtain ⟨hl, hok⟩ := hok
    subst hl
    show ev_sd p l e R s m args below meth c Q nL D cA A ads0 n0 s0 res call (if h4 = 1 then eo_push (0, h1, 0) else eo_none) pc 2
    by_cases h : h4 = 1
    · rw [if_pos h]
      have hw := hts _ (ev_w_in (hok.resolve_left (fun z => z h)))
      exact es_push (fun ads => ev_rel.of ads _ 0) fun H locs k n ls rest hk => lv_ldc hx hb hown hw hdg hk
    · rw [if_neg h]
      exact es_none
  case ldc_w idx =>
    simp only [ev_ok1, Bool.and_eq_true, Bool.or_eq_true, decide_eq_true_eq] at hok
    obtain ⟨hl, hok⟩ := hok
    subst hl
    show ev_sd p l e R s m args below meth c Q nL D cA A ads0 n0 s0 res call (if h4 = 1 then eo_push (0, h1, 0) else eo_none) pc 3
    by_cases h : h4 = 1
    · rw [if_pos h]
      have hw := hts _ (ev_w_in (hok.resolve_left (fun z => z h)))
      exact es_push (fun ads => ev_rel.of ads _ 0) fun H locs k n ls rest hk => lv_ldcw hx hb hown hw hdg hk
    · rw [if_neg h]
      exact es_none
  case lconst n =>
    have hl : len = 1 := of_decide_eq_true hok
    subst hl
    exact es_push (v := (4, n.val, 0)) (w := .long (Int64.ofNat n.val)) (fun ads => Or.inr (Or.inr (Or.inr (Or.inr (Or.inl ⟨rfl, rfl⟩))))) fun H locs k n' ls rest hk => lv_lconst hx hb hdg rfl hk
  case iload i =>
    have hl : len = 2 := of_decide_eq_true hok
    subst hl
    exact es_iload fun H locs k n ls rest x hx' hk => lv_iload hx hb hdg hx' hk
  case iload_n i =>
    have hl : len = 1 := of_decide_eq_true hok
    subst hl
    exact es_iload fun H locs k n ls rest x hx' hk => lv_iload_n hx hb hdg rfl hx' hk
  case aload i =>
    have hl : len = 2 := of_decide_eq_true hok
    subst hl
    exact es_aload fun H locs k n ls rest x hx' hk => lv_aload hx hb hdg hx' hk
  case aload_n i =>
    have hl : len = 1 := of_decide_eq_true hok
    subst hl
    exact es_aload fun H locs k n ls rest x hx' hk => lv_aload_n hx hb hdg rfl hx' hk
  case istore i =>
    have hl : len = 2 := of_decide_eq_true hok
    subst hl
    exact es_istore fun H locs k n ls lv rest x hlv hi hk => lv_istore hx hb hdg hlv hi rfl hk
  case istore_n i =>
    have hl : len = 1 := of_decide_eq_true hok
    subst hl
    exact es_istore fun H locs k n ls lv rest x hlv hi hk => lv_istore_n hx hb hdg rfl hlv hi rfl hk
  case astore i =>
    have hl : len = 2 := of_decide_eq_true hok
    subst hl
    exact es_astore fun H locs k n ls lv rest x hlv hi hk => lv_astore hx hb hdg hlv hi rfl hk
  case astore_n i =>
    have hl : len = 1 := of_decide_eq_true hok
    subst hl
    exact es_astore fun H locs k n ls lv rest x hlv hi hk => lv_astore_n hx hb hdg rfl hlv hi rfl hk
  case iinc i n =>
    have hl : len = 3 := of_decide_eq_true hok
    subst hl
    refine es_iinc fun H locs k n' ls lv rest x hlv hm hi hk => ?_
    obtain ⟨k0, hk0⟩ := List.getElem?_of_mem hm
    exact lv_iinc hx hb hdg hlv hk0 (by rw [ev_iu]) hi rfl hk
  case iadd =>
    have hl : len = 1 := of_decide_eq_true hok
    subst hl
    exact es_bin fun H locs k n ls rest x y hk => lv_iadd hx hb hdg hk
  case isub =>
    have hl : len = 1 := of_decide_eq_true hok
    subst hl
    exact es_bin fun H locs k n ls rest x y hk => lv_isub hx hb hdg hk
  case imul =>
    have hl : len = 1 := of_decide_eq_true hok
    subst hl
    exact es_bin fun H locs k n ls rest x y hk => lv_imul hx hb hdg hk
  case iand =>
    have hl : len = 1 := of_decide_eq_true hok
    subst hl
    exact es_bin fun H locs k n ls rest x y hk => lv_iand hx hb hdg hk
  case ior =>
    have hl : len = 1 := of_decide_eq_true hok
    subst hl
    exact es_bin fun H locs k n ls rest x y hk => lv_ior hx hb hdg hk
  case ixor =>
    have hl : len = 1 := of_decide_eq_true hok
    subst hl
    exact es_bin fun H locs k n ls rest x y hk => lv_ixor hx hb hdg hk
  case ishl =>
    have hl : len = 1 := of_decide_eq_true hok
    subst hl
    exact es_bin fun H locs k n ls rest x y hk => lv_ishl hx hb hdg hk
  case ishr =>
    have hl : len = 1 := of_decide_eq_true hok
    subst hl
    exact es_bin fun H locs k n ls rest x y hk => lv_ishr hx hb hdg hk
  case iushr =>
    have hl : len = 1 := of_decide_eq_true hok
    subst hl
    exact es_bin fun H locs k n ls rest x y hk => lv_iushr hx hb hdg rfl hk
  case idiv =>
    have hl : len = 1 := of_decide_eq_true hok
    subst hl
    exact es_div fun H locs k n ls rest x y hy hk => lv_idiv hx hb hdg hy hk
  case irem =>
    have hl : len = 1 := of_decide_eq_true hok
    subst hl
    exact es_div fun H locs k n ls rest x y hy hk => lv_irem hx hb hdg hy hk
  case ineg =>
    have hl : len = 1 := of_decide_eq_true hok
    subst hl
    exact es_un fun H locs k n ls rest x hk => lv_ineg hx hb hdg hk
  case i2b =>
    have hl : len = 1 := of_decide_eq_true hok
    subst hl
    exact es_un fun H locs k n ls rest x hk => lv_i2b hx hb hdg rfl hk
  case dup =>
    have hl : len = 1 := of_decide_eq_true hok
    subst hl
    exact es_dup fun H locs k n ls rest w hw hk => lv_dup hx hb hdg hw hk
  case dup2 =>
    have hl : len = 1 := of_decide_eq_true hok
    subst hl
    exact es_dup2 fun H locs k n ls rest w w' hw hw' hk => lv_dup2_11 hx hb hdg hw hw' hk
  case pop =>
    have hl : len = 1 := of_decide_eq_true hok
    subst hl
    exact es_pop fun H locs k n ls rest w hw hk => lv_pop hx hb hdg hw hk
  case ifCond cd off =>
    simp only [ev_ok1, Bool.and_eq_true, decide_eq_true_eq] at hok
    obtain ⟨hl, ht⟩ := hok
    subst hl
    refine es_ifc fun H locs k n ls rest x kt kf => ?_
    cases cd
    · exact lv_if_eq hx hb hdg ht kt kf
    · exact lv_if_ne hx hb hdg ht kt (fun z => kf (fun w => w z))
    · exact lv_if_lt hx hb hdg ht kt kf
    · exact lv_if_ge hx hb hdg ht kt kf
    · exact lv_if_gt hx hb hdg ht kt kf
    · exact lv_if_le hx hb hdg ht kt kf
  case if_icmp cd off =>
    simp only [ev_ok1, Bool.and_eq_true, decide_eq_true_eq] at hok
    obtain ⟨hl, ht⟩ := hok
    subst hl
    refine es_icmp fun H locs k n ls rest x y kt kf => ?_
    cases cd
    · exact lv_icmp_eq hx hb hdg ht kt kf
    · exact lv_icmp_ne hx hb hdg ht kt (fun z => kf (fun w => w z))
    · exact lv_icmp_lt hx hb hdg ht kt kf
    · exact lv_icmp_ge hx hb hdg ht kt kf
    · exact lv_icmp_gt hx hb hdg ht kt kf
    · exact lv_icmp_le hx hb hdg ht kt kf
  case goto off =>
    simp only [ev_ok1, Bool.and_eq_true, decide_eq_true_eq] at hok
    obtain ⟨hl, ht⟩ := hok
    subst hl
    exact es_goto fun H locs k n ls rest hk => lv_goto hx hb hdg ht hk
  case tableswitch dd lo hi offs =>
    simp only [ev_ok1, Bool.and_eq_true, decide_eq_true_eq, List.all_eq_true] at hok
    obtain ⟨⟨o1, o2, o3⟩, o4⟩ := hok
    refine es_tab fun H locs k n ls rest x t ht hk => ?_
    have hkx := ev_key_int x
    rw [List.length_map] at ht
    have hsz : offs.toList.length = offs.size := by simp
    rcases ht with ⟨ht, rfl⟩ | ⟨ht, ht2⟩
    · exact lv_tableOut hx hb hdg (by omega) (by unfold ev_tgt; omega) hk
    · rw [List.getElem?_map] at ht2
      cases ho : offs.toList[ev_key x - (lo + 2147483648).toNat]? with
      | none => rw [ho] at ht2; cases ht2
      | some off =>
        rw [ho] at ht2
        have ht2 : ev_tgt pc off = t := Option.some.inj ht2
        have hlt := (List.getElem?_eq_some_iff.mp ho).1
        have h0 := o4 off (List.mem_of_getElem? ho)
        refine lv_tableIn (off := off) hx hb hdg (by omega) (by omega) ?_ (by rw [← ht2]; unfold ev_tgt; omega) hk
        rw [← ho, show (x.toInt - lo).toNat = ev_key x - (lo + 2147483648).toNat by omega]
        simp
  case lookupswitch dd ps =>
    show ev_sd p l e R s m args below meth c Q nL D cA A ads0 n0 s0 res call (if h4 = 1 then eo_tab h1 (ps.toList.map (fun q => ev_tgt pc q.2)) (ev_tgt pc dd) else eo_none) pc len
    by_cases h : h4 = 1
    · rw [if_pos h]
      have hok : (0 ≤ (pc : Int) + dd ∧ (ps.toList.map (fun q => q.1)) = (List.range ps.toList.length).map (fun (j : Nat) => (h1 : Int) - 2147483648 + (j : Int))) ∧ (ps.toList.zip (ps.toList.drop 1)).all (fun (a, next) => a.1 < next.1) = true ∧ ∀ q ∈ ps.toList, 0 ≤ (pc : Int) + q.2 := by
        simp only [ev_ok1, Bool.and_eq_true, Bool.or_eq_true, decide_eq_true_eq, List.all_eq_true] at hok
        have hz := hok.resolve_left (fun z => z h)
        exact ⟨hz.1, by simpa [List.all_eq_true] using hz.2.1, hz.2.2⟩
      obtain ⟨⟨o1, o2⟩, o3, o4⟩ := hok
      refine es_tab fun H locs k n ls rest x t ht hk => ?_
      have hkx := ev_key_int x
      rw [List.length_map] at ht
      have hof := ev_lkp ps.toList ((h1 : Int) - 2147483648) dd x.toInt o2
      rcases ht with ⟨ht, rfl⟩ | ⟨ht, ht2⟩
      · exact lv_lookup hx hb hdg o3 (hof.1 (by omega)) (by unfold ev_tgt; omega) hk
      · rw [List.getElem?_map] at ht2
        cases ho : ps.toList[ev_key x - h1]? with
        | none => rw [ho] at ht2; cases ht2
        | some q =>
          rw [ho] at ht2
          have ht2 : ev_tgt pc q.2 = t := Option.some.inj ht2
          have h0 := o4 q (List.mem_of_getElem? ho)
          exact lv_lookup (off := q.2) hx hb hdg o3 (hof.2 (ev_key x - h1) q ho (by omega)) (by rw [← ht2]; unfold ev_tgt; omega) hk
    · rw [if_neg h]
      exact es_none
  case iaload =>
    have hl : len = 1 := of_decide_eq_true hok
    subst hl
    refine es_ald (by decide) (by decide) fun t t1 t2 H locs k' n ls rest ws a q0 N f i hP ha hin hk => ?_
    have ht : t = 0 := by omega
    subst ht
    exact va_iald hx hb hK hP q0 0 ha rfl hin hdg hk
  case baload =>
    have hl : len = 1 := of_decide_eq_true hok
    subst hl
    refine es_ald (by decide) (by decide) fun t t1 t2 H locs k' n ls rest ws a q0 N f i hP ha hin hk => ?_
    have ht : t = 1 ∨ t = 2 := by omega
    rcases ht with rfl | rfl
    · exact va_bald hx hb hK hP q0 1 ha rfl hin hdg hk
    · exact va_zald hx hb hK hP q0 2 ha rfl hin hdg hk
  case iastore =>
    have hl : len = 1 := of_decide_eq_true hok
    subst hl
    exact es_iast fun H locs k' n ls rest ws a q0 N f i x hP hD hS ha hin hk => va_iast hx hb hK hP hD hS q0 0 ha rfl hin hdg hk
  case bastore =>
    have hl : len = 1 := of_decide_eq_true hok
    subst hl
    refine es_bast fun t ty ht H locs k' n ls rest ws a q0 N f i x hP hD hS ha hin hk => ?_
    rcases ht with ⟨rfl, rfl⟩ | ⟨rfl, rfl⟩
    · exact va_bast hx hb hK hP hD hS q0 1 ha rfl hin hdg hk
    · exact va_zast hx hb hK hP hD hS q0 2 ha rfl hin hdg hk
  case arraylength =>
    have hl : len = 1 := of_decide_eq_true hok
    subst hl
    refine es_alen fun t ht H locs k' n ls rest ws a q0 x hP ha hk => ?_
    match t, ht with
    | 0, _ => exact va_alen hx hb hK hP q0 0 ha rfl rfl hdg hk
    | 1, _ => exact va_alen hx hb hK hP q0 1 ha rfl rfl hdg hk
    | 2, _ => exact va_alen hx hb hK hP q0 2 ha rfl rfl hdg hk
    | 3, _ => exact va_alen hx hb hK hP q0 3 ha rfl rfl hdg hk
    | t + 4, ht => omega
  case getfield idx =>
    simp only [ev_ok1, Bool.and_eq_true, Bool.or_eq_true, decide_eq_true_eq] at hok
    obtain ⟨hl, hok⟩ := hok
    subst hl
    show ev_sd p l e R s m args below meth c Q nL D cA A ads0 n0 s0 res call (if h4 = 9 then eo_none else eo_getf h1 h2) pc 3
    by_cases h : h4 = 9
    · rw [if_pos h]; exact es_none
    · rw [if_neg h]
      have hok := hok.resolve_left h
      cases hq : en_classes[h1]? with
      | none => rw [hq] at hok; exact absurd hok (by simp)
      | some q =>
        obtain ⟨C, T, N⟩ := q
        rw [hq] at hok
        simp only [Bool.and_eq_true, decide_eq_true_eq] at hok
        obtain ⟨⟨o1, o2⟩, o3⟩ := hok
        obtain ⟨e1, -, -⟩ := hen _ (List.mem_of_getElem? hq)
        refine es_getf o1 fun H locs k' n ls rest ws a q0 fs v hP ha hv hk => ?_
        by_cases h' : h3 = 1
        · rw [if_pos h'] at o3
          exact va_getN hx hb hts e1 hown hK hP q0 ha hq h2 o2 (va_Nw.use rfl (hNw _ (ev_wn_in o3))) (fun _ z => z) hv hdg hk
        · rw [if_neg h'] at o3
          exact va_get hx hb hts e1 hown hK hP q0 ha hq h2 o2 (hts _ (ev_w_in o3)) (fun _ z => z) hv hdg hk
  case putfield idx =>
    simp only [ev_ok1, Bool.and_eq_true, Bool.or_eq_true, decide_eq_true_eq] at hok
    obtain ⟨hl, hok⟩ := hok
    subst hl
    show ev_sd p l e R s m args below meth c Q nL D cA A ads0 n0 s0 res call (if h4 = 9 then eo_none else eo_putf h1 h2 h4) pc 3
    by_cases h : h4 = 9
    · rw [if_pos h]; exact es_none
    · rw [if_neg h]
      have hok := hok.resolve_left h
      cases hq : en_classes[h1]? with
      | none => rw [hq] at hok; exact absurd hok (by simp)
      | some q =>
        obtain ⟨C, T, N⟩ := q
        rw [hq] at hok
        simp only [Bool.and_eq_true, decide_eq_true_eq] at hok
        obtain ⟨⟨⟨o1, o2, o3, o4⟩, o5⟩, o6⟩ := hok
        obtain ⟨e1, e2, e3⟩ := hen _ (List.mem_of_getElem? hq)
        refine es_putf o1 fun H locs k' n ls rest ws a q0 fs v hP hD hS ha hlt hfit hk => ?_
        obtain ⟨f1, f2⟩ := ev_fits_ty (e2 h2 o2) o3 o4 hfit
        by_cases h' : h3 = 1
        · rw [if_pos h'] at o5
          rw [if_neg (by omega)] at o6
          exact va_putN hx hb hts e1 (en_ty (C, T, N)) e2 e3 hown hK hP hD hS q0 ha hq h2 o2 (va_Nw.use rfl (hNw _ (ev_wn_in o5))) (fun _ z => z) (of_decide_eq_true o6) (e2 h2 o2) f1 f2 hlt hdg hk
        · rw [if_neg h'] at o5
          by_cases h'' : h3 = 2
          · rw [if_pos h''] at o6
            obtain ⟨z1, z2, z3⟩ := of_decide_eq_true o6
            exact va_putF hx hb hts e1 (en_ty (C, T, N)) e2 e3 hown hK hP hD hS q0 ha hq h2 o2 (hts _ (ev_w_in o5)) (fun _ z => z) z1 (hname z2) z3 (e2 h2 o2) f1 f2 hlt hdg hk
          · rw [if_neg h''] at o6
            exact va_put hx hb hts e1 (en_ty (C, T, N)) e2 e3 hown hK hP hD hS q0 ha hq h2 o2 (hts _ (ev_w_in o5)) (fun _ z => z) (of_decide_eq_true o6) (e2 h2 o2) f1 f2 hlt hdg hk
  case ireturn =>
    simp only [ev_ok1, Bool.and_eq_true, decide_eq_true_eq] at hok
    obtain ⟨hl, hok⟩ := hok
    subst hl
    refine es_iret fun ads ws H locs ls w hp hwo hS hr hrel hf => ?_
    rcases hok with ⟨rfl, hr2⟩ | ⟨rfl, hr2⟩
    · obtain ⟨x, rfl⟩ := hf
      exact hri hr2 ads ws H locs ls x hp hwo hS hr hrel hdg
    · obtain ⟨x, rfl, hx⟩ := hf
      exact hrz hr2 ads ws H locs ls x hp hwo hS hr hrel hx hdg
  case return_ =>
    simp only [ev_ok1, Bool.and_eq_true, decide_eq_true_eq] at hok
    obtain ⟨hl, hok⟩ := hok
    subst hl
    exact es_vret fun ads ws H locs ls hp hwo hS hr => hrv hok ads ws H locs ls hp hwo hS hr hdg
  case newarray t =>
    simp only [ev_ok1, Bool.and_eq_true, decide_eq_true_eq] at hok
    obtain ⟨hl, hok⟩ := hok
    subst hl
    have hw := hts _ (ev_w_in hok)
    cases t
    case int =>
      exact es_newa 0 rfl (fun N => (N, .inl (fun _ => 0))) (fun N ads => ev_newC (t := 0) (by decide) N ads) hcx fun H locs k n ls rest ws N hN hP hD hS hc hs hk => va_newa hx hb hw rfl hK hP hD hS hA (fun _ => rfl) (nI_pos (show N < 2 ^ 31 by omega)) (ev_cl hN) (by show N * 4 ≤ _; omega) hc hs hdg fun q cA' H1 hK' hP1 hD1 hS1 => by
        have e := ev_sameA (t := 0) hK hK' rfl (fun C z => by cases z) rfl
        subst e
        exact hk q H1 hP1 hD1 hS1
    case byte =>
      exact es_newa 1 rfl (fun N => (N, .inl (fun _ => 0))) (fun N ads => ev_newC (t := 1) (by decide) N ads) hcx fun H locs k n ls rest ws N hN hP hD hS hc hs hk => va_newa hx hb hw rfl hK hP hD hS hA (fun _ => rfl) (nI_pos (show N < 2 ^ 31 by omega)) (ev_cl hN) (by show N * 1 ≤ _; omega) hc hs hdg fun q cA' H1 hK' hP1 hD1 hS1 => by
        have e := ev_sameA (t := 1) hK hK' rfl (fun C z => by cases z) rfl
        subst e
        exact hk q H1 hP1 hD1 hS1
    case boolean =>
      exact es_newa 2 rfl (fun N => (N, .inl (fun _ => 0))) (fun N ads => ev_newC (t := 2) (by decide) N ads) hcx fun H locs k n ls rest ws N hN hP hD hS hc hs hk => va_newa hx hb hw rfl hK hP hD hS hA (fun _ => rfl) (nI_pos (show N < 2 ^ 31 by omega)) (ev_cl hN) (by show N * 1 ≤ _; omega) hc hs hdg fun q cA' H1 hK' hP1 hD1 hS1 => by
        have e := ev_sameA (t := 2) hK hK' rfl (fun C z => by cases z) rfl
        subst e
        exact hk q H1 hP1 hD1 hS1
    case long =>
      exact es_newa 3 rfl (fun N => (N, .inr (.inl (fun _ => 0)))) (fun N ads => Or.inr (Or.inr (Or.inl ⟨rfl, fun _ => 0, by rw [List.length_replicate]⟩))) hcx fun H locs k n ls rest ws N hN hP hD hS hc hs hk => va_newa hx hb hw rfl hK hP hD hS hA (fun _ => rfl) (nI_pos (show N < 2 ^ 31 by omega)) (ev_cl hN) (by show N * 8 ≤ _; omega) hc hs hdg fun q cA' H1 hK' hP1 hD1 hS1 => by
        have e := ev_sameA (t := 3) hK hK' rfl (fun C z => by cases z) rfl
        subst e
        exact hk q H1 hP1 hD1 hS1
    all_goals exact es_none
  case new idx =>
    simp only [ev_ok1, Bool.and_eq_true, Bool.or_eq_true, decide_eq_true_eq] at hok
    obtain ⟨hl, hok⟩ := hok
    subst hl
    show ev_sd p l e R s m args below meth c Q nL D cA A ads0 n0 s0 res call (if h4 = 9 then eo_none else eo_new h1 (ev_blank.getD h1 []) h2) pc 3
    by_cases h : h4 = 9
    · rw [if_pos h]; exact es_none
    · rw [if_neg h]
      have hok := hok.resolve_left h
      cases hq : en_classes[h1]? with
      | none => rw [hq] at hok; exact absurd hok (by simp)
      | some q =>
        obtain ⟨C, T, N⟩ := q
        rw [hq] at hok
        simp only [Bool.and_eq_true, decide_eq_true_eq, List.all_eq_true, List.mem_range] at hok
        obtain ⟨⟨o1, o2, o3⟩, o4, o5, o6, o7⟩ := hok
        obtain ⟨e1, e2, e3⟩ := hen _ (List.mem_of_getElem? hq)
        subst o2
        have hv : ∀ j, j < h2 → ((List.range h2).map (fun j => defaultValue (en_ty (C, T, h2) j)))[j]? = some (defaultValue (en_ty (C, T, h2) j)) := by
          intro j hj
          rw [List.getElem?_map, List.getElem?_range hj]
          rfl
        refine es_new ((List.range h2).map (fun j => defaultValue (en_ty (C, T, h2) j))) o3 o1 (by simp) (fun ads j v hj => ?_) hcx fun H locs k n' ls rest ws hP hD hS hc hs hk => ?_
        · have hjl : j < h2 := by have := (List.getElem?_eq_some_iff.mp hj).1; omega
          obtain ⟨z1, z2⟩ := o7 j hjl
          rw [hj] at z1
          cases z1
          exact ⟨_, hv j hjl, ev_dflt (e2 j hjl) z2 ads⟩
        · refine va_new hx hb hts e1 (en_ty (C, T, h2)) e2 hown (hts _ (ev_w_in o4)) (hts _ (ev_w_in o5)) (hts _ (ev_w_in o6)) hK hP hD hS hA hq (fun j hj => ?_) hc hs hdg hk
          unfold vp_V
          rw [List.getD_eq_getElem?_getD, hv j hj]
          rfl
  case invokespecial idx =>
    simp only [ev_ok1, Bool.and_eq_true, Bool.or_eq_true, decide_eq_true_eq] at hok
    obtain ⟨hl, hok⟩ := hok
    subst hl
    show ev_sd p l e R s m args below meth c Q nL D cA A ads0 n0 s0 res call (if h3 = 9 then eo_none else if h3 = 2 then eo_obj else eo_spec h1 h2) pc 3
    by_cases h : h3 = 9
    · rw [if_pos h]; exact es_none
    · rw [if_neg h]
      have hok := hok.resolve_left h
      by_cases h' : h3 = 2
      · rw [if_pos h'] at hok ⊢
        simp only [Bool.and_eq_true] at hok
        obtain ⟨o1, o2, o3⟩ := hok
        exact es_obj fun H locs k n ls rest a hsz hsum hk => W.objInit hx hb hown (hts _ (ev_w_in o1)) (hts _ (ev_w_in o2)) (hts _ (ev_w_in o3)) rfl (by rw [hml]; exact hsz) rfl hdg (by omega) (by show 2 * 0 + _ + 12 ≤ _; omega) hk
      · rw [if_neg h'] at hok ⊢
        obtain ⟨M, o1, o2, o3, o4, o5, o6, o7, o8⟩ := ev_nop_ok hok
        simp only [Bool.and_eq_true, decide_eq_true_eq] at o2
        obtain ⟨o2, o9, o10⟩ := o2
        refine es_spec (M := M) rfl hcx (hcall h1 M o1) fun H locs cells slots mc ms ls rest As b Pc Qc free hM hp hn hsz hsum hf => ?_
        by_cases h'' : h3 = 1
        · have cw := ev_callN (mc := mc) (ms := ms) hcx (o3 h'') o5 o6 o7 o8
          rw [o10] at cw
          exact va_runIN ⟨hx, hb, hml, hown, hts⟩ hM ⟨cw, o9, hts _ (ev_w_in o2)⟩ hp rfl hn hsz rfl (by show 2 * 0 + _ ≤ 8; omega) hdg hf
        · have cw := ev_callB (mc := mc) (ms := ms) hcx (o4 h'') o5 o6 o7 o8
          rw [o10] at cw
          exact va_runI ⟨hx, hb, hml, hown, hts⟩ hM ⟨cw, o9, hts _ (ev_w_in o2)⟩ hp rfl hn hsz rfl (by show 2 * 0 + _ ≤ 8; omega) hdg hf
  case invokevirtual idx =>
    simp only [ev_ok1, Bool.and_eq_true, Bool.or_eq_true, decide_eq_true_eq] at hok
    obtain ⟨hl, hok⟩ := hok
    subst hl
    show ev_sd p l e R s m args below meth c Q nL D cA A ads0 n0 s0 res call (if h3 = 9 then eo_none else eo_virt h1 h2 h4) pc 3
    by_cases h : h3 = 9
    · rw [if_pos h]; exact es_none
    · rw [if_neg h]
      have hok := hok.resolve_left h
      obtain ⟨M, o1, o2, o3, o4, o5, o6, o7, o8⟩ := ev_nop_ok hok
      simp only [Bool.and_eq_true, decide_eq_true_eq] at o2
      obtain ⟨o2, o9, o10, o11⟩ := o2
      cases hq : en_classes[h4]? with
      | none => rw [hq] at o11; cases o11
      | some q =>
        obtain ⟨C, T, N⟩ := q
        rw [hq] at o11
        have hC : C = M.1.cls := Option.some.inj o11
        subst hC
        refine es_virt (M := M) rfl o10 hq hcx (hcall h1 M o1) fun H locs cells slots mc ms ls rest As b Pc Qc free hM hp hn hsz hsum hf => ?_
        by_cases h'' : h3 = 1
        · exact va_runVN ⟨hx, hb, hml, hown, hts⟩ hM ⟨ev_callN (mc := mc) (ms := ms) hcx (o3 h'') o5 o6 o7 o8, hts _ (ev_w_in o2), hts _ (ev_w_in o9)⟩ hp rfl hn hsz rfl (by show 2 * 0 + _ ≤ 8; omega) hdg hf
        · exact va_runV ⟨hx, hb, hml, hown, hts⟩ hM ⟨ev_callB (mc := mc) (ms := ms) hcx (o4 h'') o5 o6 o7 o8, hts _ (ev_w_in o2), hts _ (ev_w_in o9)⟩ hp rfl hn hsz rfl (by show 2 * 0 + _ ≤ 8; omega) hdg hf
  case invokestatic idx =>
    simp only [ev_ok1, Bool.and_eq_true, Bool.or_eq_true, decide_eq_true_eq] at hok
    obtain ⟨hl, hok⟩ := hok
    subst hl
    show ev_sd p l e R s m args below meth c Q nL D cA A ads0 n0 s0 res call (if h3 = 9 then eo_none else if h3 = 6 then eo_min else if h3 = 5 then eo_copy else eo_stat h1 h2) pc 3
    by_cases h : h3 = 9
    · rw [if_pos h]; exact es_none
    · rw [if_neg h]
      have hok := hok.resolve_left h
      by_cases h6 : h3 = 6
      · rw [if_pos h6] at hok ⊢
        simp only [Bool.and_eq_true] at hok
        obtain ⟨o1, o2, o3, o4⟩ := hok
        exact es_min hcx fun H locs k n ls rest x y hsz hsum hc hs hk => va_mmin hx hb (by rw [hml]; exact hsz.symm) hown (hts _ (ev_w_in o1)) (hts _ (ev_w_in o4)) (hts _ (ev_w_in o3)) (hts _ (ev_w_in o2)) (by omega) (by omega) hc hs hdg hk
      rw [if_neg h6] at hok ⊢
      by_cases h' : h3 = 5
      · rw [if_pos h'] at hok ⊢
        simp only [Bool.and_eq_true] at hok
        obtain ⟨o1, o2, o3, o4⟩ := hok
        refine es_copy fun H locs k' n' ls rest ws a0 a1 q0 q1 N0 N1 f g sp dp n hP hD hS ha0 ha1 z1 z2 z3 z4 z5 hsz hsum hk => ?_
        exact va_copyi hx hb (by rw [hml]; exact hsz.symm) hown (hts _ (ev_w_in o1)) (hts _ (ev_w_in o2)) (hts _ (ev_w_in o3)) (hts _ (ev_w_in o4)) hK hP hD hS q0 q1 0 0 ha0 ha1 rfl rfl rfl z1 z2 z3 z4 z5 (fun _ _ => rfl) (by omega) (by show _ + (7 + 11) ≤ _; omega) hdg hk
      · rw [if_neg h'] at hok ⊢
        obtain ⟨M, o1, o2, o3, o4, o5, o6, o7, o8⟩ := ev_nop_ok hok
        refine es_stat (M := M) rfl hcx (hcall h1 M o1) fun H locs cells slots mc ms ls rest As Pc Qc free hM hp hn hsz hsum hf => ?_
        by_cases h'' : h3 = 1
        · exact va_runSN ⟨hx, hb, hml, hown, hts⟩ hM ⟨ev_callN (mc := mc) (ms := ms) hcx (o3 h'') o5 o6 o7 o8, hts _ (ev_w_in o2), trivial⟩ hp rfl hn hsz rfl (by show 2 * 0 + _ ≤ 8; omega) hdg hf
        · exact va_runS ⟨hx, hb, hml, hown, hts⟩ hM ⟨ev_callB (mc := mc) (ms := ms) hcx (o4 h'') o5 o6 o7 o8, hts _ (ev_w_in o2)⟩ hp rfl hn hsz rfl (by show 2 * 0 + _ ≤ 8; omega) hdg hf
  all_goals exact es_none
end EvSem
