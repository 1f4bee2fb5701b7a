/-! EACH INSTRUCTION of the second engine is sound -/
def e2_tt (lo : Nat) : List Nat → List (Nat × Nat)
  | [] => []
  | t :: ts => (lo, t) :: e2_tt (lo + 1) ts
theorem e2_tt_in : ∀ {ts : List Nat} {lo : Nat} {q : Nat × Nat}, q ∈ e2_tt lo ts ↔ lo ≤ q.1 ∧ ts[q.1 - lo]? = some q.2 := by
  intro ts
  induction ts with
  | nil => intro lo q; simp [e2_tt]
  | cons t ts ih =>
    intro lo q
    show q ∈ (lo, t) :: e2_tt (lo + 1) ts ↔ _
    rw [List.mem_cons, ih]
    constructor
    · rintro (rfl | ⟨h1, h2⟩)
      · exact ⟨Nat.le_refl _, by show (t :: ts)[lo - lo]? = some t; rw [Nat.sub_self]; rfl⟩
      · refine ⟨by omega, ?_⟩
        rw [show q.1 - lo = (q.1 - (lo + 1)) + 1 by omega, List.getElem?_cons_succ]
        exact h2
    · rintro ⟨h1, h2⟩
      by_cases hz : q.1 = lo
      · left
        rw [hz, Nat.sub_self] at h2
        have h2 : t = q.2 := Option.some.inj h2
        exact Prod.ext hz h2.symm
      · right
        refine ⟨by omega, ?_⟩
        rw [show q.1 - lo = (q.1 - (lo + 1)) + 1 by omega, List.getElem?_cons_succ] at h2
        exact h2
def e2_lk (pc : Nat) (ps : Array (Int × Int)) : List (Nat × Nat) := ps.toList.map (fun q => ((q.1 + 2147483648).toNat, ev_tgt pc q.2))
noncomputable def e2_sem (pc : Nat) (ins : Instr) (h1 h2 h3 h4 : Nat) : e2_Op := match ins with
  | .iconst i => o2_push (0, ev_u (Int32.ofInt i), 0)
  | .bipush i => o2_push (0, ev_u (Int8.ofInt i).toInt32, 0)
  | .sipush i => o2_push (0, ev_u (Int16.ofInt i).toInt32, 0)
  | .ldc _ => if h4 = 1 then o2_push (0, h1, 0) else o2_none
  | .ldc_w _ => if h4 = 1 then o2_push (0, h1, 0) else o2_none
  | .ldc2_w _ => if h4 = 1 then o2_push (4, h1, 0) else o2_none
  | .lconst n => o2_push (4, n.val, 0)
  | .iload i => o2_iload i
  | .iload_n i => o2_iload i.val
  | .aload i => o2_aload i
  | .aload_n i => o2_aload i.val
  | .lload_n i => o2_lload i.val
  | .istore i => o2_istore i
  | .istore_n i => o2_istore i.val
  | .astore i => o2_astore i
  | .astore_n i => o2_astore i.val
  | .lstore_n i => o2_lstore i.val
  | .iinc i n => o2_iinc i (ev_u (Int32.ofInt n))
  | .iadd => o2_bin eb_add tr_add
  | .isub => o2_bin eb_sub tr_sub
  | .imul => o2_bin eb_mul tr_mul
  | .iand => o2_bin eb_and tr_and
  | .ior => o2_bin eb_or tr_or
  | .ixor => o2_bin eb_xor tr_top
  | .ishl => o2_bin eb_shl tr_top
  | .ishr => o2_bin eb_shr tr_top
  | .iushr => o2_bin ev_ushr tr_top
  | .idiv => o2_div eb_div tr_div
  | .irem => o2_div eb_rem tr_rem
  | .ineg => o2_un eb_neg tr_neg
  | .i2b => o2_un eb_i2b tr_i2b
  | .i2l => o2_i2l
  | .ladd => o2_l2
  | .lmul => o2_l2
  | .lor => o2_l2
  | .lshl => o2_lsh
  | .lcmp => o2_lcmp
  | .dup => o2_dup
  | .dup2 => o2_dup2
  | .pop => o2_pop
  | .ifCond c _ => o2_ifc c h1
  | .if_icmp c _ => o2_icmp c h1
  | .goto _ => o2_goto h1
  | .tableswitch d lo _ offs => o2_sw (e2_tt (lo + 2147483648).toNat (offs.toList.map (ev_tgt pc))) (ev_tgt pc d)
  | .lookupswitch d ps => if h4 = 2 then o2_sw (e2_lk pc ps) (ev_tgt pc d) else o2_none
  | .getfield _ => if h4 = 9 then o2_none else o2_getf h1 h2
  | .putfield _ => if h4 = 9 then o2_none else o2_putf h1 h2 h4
  | .iaload => o2_ald 50 50
  | .baload => o2_ald 51 52
  | .laload => o2_lald
  | .iastore => o2_iast
  | .bastore => o2_bast
  | .lastore => o2_last
  | .arraylength => o2_alen
  | .invokevirtual _ => if h3 = 9 then o2_none else o2_virt h1 h2 h4
  | .invokestatic _ => if h3 = 9 then (if h4 = 7 then o2_mm eb_max tr_max else o2_none) else if h3 = 6 then o2_mm eb_min tr_min else if h3 = 5 then o2_copy else o2_stat h1 h2
  | .ireturn => o2_iret h1
  | .lreturn => o2_iret 3
  | .return_ => o2_vret
  | _ => o2_none
theorem e2_off : ∀ (L : List (Int × Int)) (dd k : Int), (∃ q ∈ L, q.1 = k ∧ Op.lookupswitch.offset L dd k = q.2) ∨ ((∀ q ∈ L, q.1 ≠ k) ∧ Op.lookupswitch.offset L dd k = dd) := by
  intro L
  induction L with
  | nil => intro dd k; exact Or.inr ⟨fun q hq => (by cases hq), rfl⟩
  | cons x xs ih =>
    intro dd k
    obtain ⟨x1, x2⟩ := x
    rw [Op.lookupswitch.offset_cons]
    by_cases hz : x1 = k
    · exact Or.inl ⟨(x1, x2), List.mem_cons_self, hz, by rw [if_pos (by omega)]⟩
    · rw [if_neg (by omega)]
      rcases ih dd k with ⟨q, q1, q2, q3⟩ | ⟨q1, q2⟩
      · exact Or.inl ⟨q, List.mem_cons_of_mem _ q1, q2, q3⟩
      · refine Or.inr ⟨fun q hq => ?_, q2⟩
        rcases List.mem_cons.mp hq with rfl | hq
        · exact hz
        · exact q1 q hq
section E2Sem
variable {p : Program} {l : Launch} {e : Env} {R : Room} {s : State} {m : MethodId} {args : Array Value} {below : List Frame} {meth : Method} {c : Code} {Q : State → Prop}
variable {cc : ByteArray} {own : String} {nL : Nat} {D : va_G} {cA : e2_cA} {A : Nat → Prop} {ads r0 : List Nat} {d : Nat} {call : e2_Call} {F : e2_F} {pc len : Nat}
theorem e2_cmp0 (x y : Int64) : lg_cmp x y = 0 ↔ x = y := by
  unfold lg_cmp
  by_cases h : x > y
  · rw [if_pos h]
    exact ⟨fun z => absurd z (by decide), fun z => by rw [z] at h; exact (Int64.lt_irrefl h).elim⟩
  · rw [if_neg h]
    by_cases h2 : x = y
    · rw [if_pos h2]
      exact ⟨fun _ => h2, fun _ => rfl⟩
    · rw [if_neg h2]
      exact ⟨fun z => absurd z (by decide), fun z => absurd z h2⟩
theorem e2_cmpb (x y : Int64) : 2147483647 ≤ ev_key (lg_cmp x y) ∧ ev_key (lg_cmp x y) ≤ 2147483649 := by
  unfold lg_cmp
  by_cases h : x > y
  · rw [if_pos h]
    exact ⟨by decide +kernel, by decide +kernel⟩
  · rw [if_neg h]
    by_cases h2 : x = y
    · rw [if_pos h2]
      exact ⟨by decide +kernel, by decide +kernel⟩
    · rw [if_neg h2]
      exact ⟨by decide +kernel, by decide +kernel⟩
theorem e2_callB {M : ev_M} {idx n mc ms : Nat} (hcx : e2_cx p R s m args c cc own nL D cA A d) (h1 : Cond.methodLink own idx M.1 ∈ en_WS) (h2 : Cond.code M.1 M.2.1 M.2.2.1 M.2.2.2 ∈ en_WS) (h3 : Cond.initialized M.1.cls ∈ en_WS) (h4 : M.1.cls ≠ "java/lang/invoke/MethodHandle" ∧ M.1.cls ≠ "java/lang/invoke/VarHandle" ∧ (parseMethodDescriptor M.1.desc).map (fun d => d.parameters.length) = some n) (h5 : M.2.2.1 ≤ 41) : CallB R s args own idx M.1 M.2.1 M.2.2.1 M.2.2.2 (ev_ws M) (ev_rm d mc ms) mc ms n := by
  obtain ⟨-, -, hts, -, -, -, -, r1, r2, -⟩ := hcx
  exact callB_of n hts (ev_goodIn h2) rfl rfl rfl (hts _ h3) (hts _ h1) h4 ⟨by rw [r1]; exact Nat.le_refl _, by rw [r2]; show 8 + (M.2.2.1 + 11) + 60 * d ≤ _; omega⟩
theorem e2_callN {M : ev_M} {idx n mc ms : Nat} (hcx : e2_cx p R s m args c cc own nL D cA A d) (h1 : Cond.methodLinkNest own idx M.1 "MeadowSigns" ∈ en_NW) (h2 : Cond.code M.1 M.2.1 M.2.2.1 M.2.2.2 ∈ en_WS) (h3 : Cond.initialized M.1.cls ∈ en_WS) (h4 : M.1.cls ≠ "java/lang/invoke/MethodHandle" ∧ M.1.cls ≠ "java/lang/invoke/VarHandle" ∧ (parseMethodDescriptor M.1.desc).map (fun d => d.parameters.length) = some n) (h5 : M.2.2.1 ≤ 41) : va_CN R s args own idx M.1 "MeadowSigns" M.2.1 M.2.2.1 M.2.2.2 (ev_ws M) (ev_rm d mc ms) mc ms n := by
  obtain ⟨-, -, hts, -, -, -, -, r1, r2, hNw, -⟩ := hcx
  exact va_cnB n hts (ev_goodIn h2) rfl rfl rfl (hNw _ h1) (hts _ h3) h4 ⟨by rw [r1]; exact Nat.le_refl _, by rw [r2]; show 8 + (M.2.2.1 + 11) + 60 * d ≤ _; omega⟩
set_option maxHeartbeats 4000000 in
theorem e2_sem_ok {MT : List ev_M} {ini : Bool} {ret : Option FieldType} {ins : Instr} {h1 h2 h3 h4 : Nat} {ws : List Nat} (hen : en_ok) (hcx : e2_cx p R s m args c cc own nL D cA A d) (hname : ini = true → meth.name = "<init>")
    (hcall : ∀ k M, MT[k]? = some M → ∀ as E h K, call k as E h K = true → e2_Met l M d as E h K)
    (hri : ret = some .int → ∀ (r : List Nat) (ws : va_W) (H : Heap) (locs : List Loc) (ls : Array Slot) (x : Int32) (v : ev_V) (E : e2_E) (h : ev_H), (∃ x, r = r0 ++ x) → F v E h = true → e2_sat r E → e2_wo D cA A ads r ws h H → va_S A s.heap H locs → v.1 ≠ 9 → v.1 ≠ 7 → e2_rel ads r v (.int x) → decode cc pc = .ok (.ireturn, 1) → W p l e R s m args below meth c H locs 0 0 Q (F0 m pc ls [.int x]))
    (hrz : ret = some .boolean → ∀ (r : List Nat) (ws : va_W) (H : Heap) (locs : List Loc) (ls : Array Slot) (x : Int32) (v : ev_V) (E : e2_E) (h : ev_H), (∃ x, r = r0 ++ x) → F v E h = true → e2_sat r E → e2_wo D cA A ads r ws h H → va_S A s.heap H locs → v.1 ≠ 9 → v.1 ≠ 7 → e2_rel ads r v (.int x) → (x = 0 ∨ x = 1) → decode cc pc = .ok (.ireturn, 1) → W p l e R s m args below meth c H locs 0 0 Q (F0 m pc ls [.int x]))
    (hrl : ret = some .long → ∀ (r : List Nat) (ws : va_W) (H : Heap) (locs : List Loc) (ls : Array Slot) (x : Int64) (v : ev_V) (E : e2_E) (h : ev_H), (∃ x, r = r0 ++ x) → F v E h = true → e2_sat r E → e2_wo D cA A ads r ws h H → va_S A s.heap H locs → v.1 ≠ 9 → v.1 ≠ 7 → e2_rel ads r v (.long x) → decode cc pc = .ok (.lreturn, 1) → W p l e R s m args below meth c H locs 0 0 Q (F0 m pc ls [.long x]))
    (hrv : ret = none → ∀ (r : List Nat) (ws : va_W) (H : Heap) (locs : List Loc) (ls : Array Slot) (E : e2_E) (h : ev_H), (∃ x, r = r0 ++ x) → F (9, 0, 0) E h = true → e2_sat r E → e2_wo D cA A ads r ws h H → va_S A s.heap H locs → decode cc pc = .ok (.return_, 1) → W p l e R s m args below meth c H locs 0 0 Q (F0 m pc ls []))
    (hok : ev_ok1 MT own ini ret pc ins len h1 h2 h3 h4 ws = true) (hok2 : e2_x1 own ret pc ins len h1 h3 h4 ws = true) (hdg : decode cc pc = .ok (ins, len)) : e2_sd p l e R s m args below meth c Q nL D cA A ads r0 call F (e2_sem pc ins h1 h2 h3 h4) pc len := by
  have hcx' := hcx
  obtain ⟨hx, hb, hts, hown, hK, hA, hml, r1, r2, hNw, -⟩ := hcx'
  cases ins
  case iconst i =>
    have hl : len = 1 := of_decide_eq_true hok
    subst hl
    exact e2s_push (by show (0 : Nat) ≠ 7; decide) (fun ads r => e2_rel.ex ads r _ 0) fun H locs k n ls rest hk => lv_iconst hx hb hdg rfl hk
  case bipush i =>
    have hl : len = 2 := of_decide_eq_true hok
    subst hl
    exact e2s_push (by show (0 : Nat) ≠ 7; decide) (fun ads r => e2_rel.ex ads r _ 0) fun H locs k n ls rest hk => lv_bipush hx hb hdg rfl hk
  case sipush i =>
    have hl : len = 3 := of_decide_eq_true hok
    subst hl
    exact e2s_push (by show (0 : Nat) ≠ 7; decide) (fun ads r => e2_rel.ex ads r _ 0) fun H locs k n ls rest hk => lv_sipush hx hb hdg rfl hk
  case ldc idx =>
    simp only [ev_ok1, Bool.and_eq_true, Bool.or_eq_true, decide_eq_true_eq] at hok
    obtain ⟨hl, hok⟩ := hok
    subst hl
    show e2_sd p l e R s m args below meth c Q nL D cA A ads r0 call F (if h4 = 1 then o2_push (0, h1, 0) else o2_none) pc 2
    by_cases h : h4 = 1
    · rw [if_pos h]
      have hw := hts _ (ev_w_in (hok.resolve_left (fun z => z h)))
      exact e2s_push (by show (0 : Nat) ≠ 7; decide) (fun ads r => e2_rel.of ads r _ 0) fun H locs k n ls rest hk => lv_ldc hx hb hown hw hdg hk
    · rw [if_neg h]
      exact e2s_none
  case ldc_w idx =>
    simp only [ev_ok1, Bool.and_eq_true, Bool.or_eq_true, decide_eq_true_eq] at hok
    obtain ⟨hl, hok⟩ := hok
    subst hl
    show e2_sd p l e R s m args below meth c Q nL D cA A ads r0 call F (if h4 = 1 then o2_push (0, h1, 0) else o2_none) pc 3
    by_cases h : h4 = 1
    · rw [if_pos h]
      have hw := hts _ (ev_w_in (hok.resolve_left (fun z => z h)))
      exact e2s_push (by show (0 : Nat) ≠ 7; decide) (fun ads r => e2_rel.of ads r _ 0) fun H locs k n ls rest hk => lv_ldcw hx hb hown hw hdg hk
    · rw [if_neg h]
      exact e2s_none
  case lconst n =>
    have hl : len = 1 := of_decide_eq_true hok
    subst hl
    exact e2s_push (v := (4, n.val, 0)) (w := .long (Int64.ofNat n.val)) (by show (4 : Nat) ≠ 7; decide) (fun ads r => rfl) fun H locs k n' ls rest hk => lv_lconst hx hb hdg rfl hk
  case iload i =>
    have hl : len = 2 := of_decide_eq_true hok
    subst hl
    exact e2s_iload fun H locs k n ls rest x hx' hk => lv_iload hx hb hdg hx' hk
  case iload_n i =>
    have hl : len = 1 := of_decide_eq_true hok
    subst hl
    exact e2s_iload fun H locs k n ls rest x hx' hk => lv_iload_n hx hb hdg rfl hx' hk
  case aload i =>
    have hl : len = 2 := of_decide_eq_true hok
    subst hl
    exact e2s_aload fun H locs k n ls rest x hx' hk => lv_aload hx hb hdg hx' hk
  case aload_n i =>
    have hl : len = 1 := of_decide_eq_true hok
    subst hl
    exact e2s_aload fun H locs k n ls rest x hx' hk => lv_aload_n hx hb hdg rfl hx' hk
  case istore i =>
    have hl : len = 2 := of_decide_eq_true hok
    subst hl
    exact e2s_istore fun H locs k n ls lv rest x hlv hi hk => lv_istore hx hb hdg hlv hi rfl hk
  case istore_n i =>
    have hl : len = 1 := of_decide_eq_true hok
    subst hl
    exact e2s_istore fun H locs k n ls lv rest x hlv hi hk => lv_istore_n hx hb hdg rfl hlv hi rfl hk
  case astore i =>
    have hl : len = 2 := of_decide_eq_true hok
    subst hl
    exact e2s_astore fun H locs k n ls lv rest x hlv hi hk => lv_astore hx hb hdg hlv hi rfl hk
  case astore_n i =>
    have hl : len = 1 := of_decide_eq_true hok
    subst hl
    exact e2s_astore fun H locs k n ls lv rest x hlv hi hk => lv_astore_n hx hb hdg rfl hlv hi rfl hk
  case iinc i n =>
    have hl : len = 3 := of_decide_eq_true hok
    subst hl
    refine e2s_iinc fun H locs k n' ls lv rest x hlv hm hi hk => ?_
    obtain ⟨k0, hk0⟩ := List.getElem?_of_mem hm
    exact lv_iinc hx hb hdg hlv hk0 (by rw [ev_iu]) hi rfl hk
  case iadd =>
    have hl : len = 1 := of_decide_eq_true hok
    subst hl
    exact e2s_bin tr_add_ok fun H locs k n ls rest x y hk => lv_iadd hx hb hdg hk
  case isub =>
    have hl : len = 1 := of_decide_eq_true hok
    subst hl
    exact e2s_bin tr_sub_ok fun H locs k n ls rest x y hk => lv_isub hx hb hdg hk
  case imul =>
    have hl : len = 1 := of_decide_eq_true hok
    subst hl
    exact e2s_bin tr_mul_ok.tro fun H locs k n ls rest x y hk => lv_imul hx hb hdg hk
  case iand =>
    have hl : len = 1 := of_decide_eq_true hok
    subst hl
    exact e2s_bin tr_and_ok.tro fun H locs k n ls rest x y hk => lv_iand hx hb hdg hk
  case ior =>
    have hl : len = 1 := of_decide_eq_true hok
    subst hl
    exact e2s_bin tr_or_ok.tro fun H locs k n ls rest x y hk => lv_ior hx hb hdg hk
  case ixor =>
    have hl : len = 1 := of_decide_eq_true hok
    subst hl
    exact e2s_bin (tr_top_ok _).tro fun H locs k n ls rest x y hk => lv_ixor hx hb hdg hk
  case ishl =>
    have hl : len = 1 := of_decide_eq_true hok
    subst hl
    exact e2s_bin (tr_top_ok _).tro fun H locs k n ls rest x y hk => lv_ishl hx hb hdg hk
  case ishr =>
    have hl : len = 1 := of_decide_eq_true hok
    subst hl
    exact e2s_bin (tr_top_ok _).tro fun H locs k n ls rest x y hk => lv_ishr hx hb hdg hk
  case iushr =>
    have hl : len = 1 := of_decide_eq_true hok
    subst hl
    exact e2s_bin (tr_top_ok _).tro fun H locs k n ls rest x y hk => lv_iushr hx hb hdg rfl hk
  case idiv =>
    have hl : len = 1 := of_decide_eq_true hok
    subst hl
    exact e2s_div tr_div_ok.tro fun H locs k n ls rest x y hy hk => lv_idiv hx hb hdg hy hk
  case irem =>
    have hl : len = 1 := of_decide_eq_true hok
    subst hl
    exact e2s_div tr_rem_ok.tro fun H locs k n ls rest x y hy hk => lv_irem hx hb hdg hy hk
  case ineg =>
    have hl : len = 1 := of_decide_eq_true hok
    subst hl
    exact e2s_un tr_neg_ok fun H locs k n ls rest x hk => lv_ineg hx hb hdg hk
  case i2b =>
    have hl : len = 1 := of_decide_eq_true hok
    subst hl
    exact e2s_un tr_i2b_ok fun H locs k n ls rest x hk => lv_i2b hx hb hdg rfl hk
  case dup =>
    have hl : len = 1 := of_decide_eq_true hok
    subst hl
    exact e2s_dup fun H locs k n ls rest w hw hk => lv_dup hx hb hdg hw hk
  case dup2 =>
    have hl : len = 1 := of_decide_eq_true hok
    subst hl
    exact e2s_dup2 fun H locs k n ls rest w w' hw hw' hk => lv_dup2_11 hx hb hdg hw hw' hk
  case pop =>
    have hl : len = 1 := of_decide_eq_true hok
    subst hl
    exact e2s_pop fun H locs k n ls rest w hw hk => lv_pop hx hb hdg hw hk
  case ifCond cd off =>
    simp only [ev_ok1, Bool.and_eq_true, decide_eq_true_eq] at hok
    obtain ⟨hl, ht⟩ := hok
    subst hl
    refine e2s_ifc fun H locs k n ls rest x kt kf => ?_
    cases cd
    · exact lv_if_eq hx hb hdg ht kt kf
    · exact lv_if_ne hx hb hdg ht kt (fun z => kf (fun w => w z))
    · exact lv_if_lt hx hb hdg ht kt kf
    · exact lv_if_ge hx hb hdg ht kt kf
    · exact lv_if_gt hx hb hdg ht kt kf
    · exact lv_if_le hx hb hdg ht kt kf
  case if_icmp cd off =>
    simp only [ev_ok1, Bool.and_eq_true, decide_eq_true_eq] at hok
    obtain ⟨hl, ht⟩ := hok
    subst hl
    refine e2s_icmp fun H locs k n ls rest x y kt kf => ?_
    cases cd
    · exact lv_icmp_eq hx hb hdg ht kt kf
    · exact lv_icmp_ne hx hb hdg ht kt (fun z => kf (fun w => w z))
    · exact lv_icmp_lt hx hb hdg ht kt kf
    · exact lv_icmp_ge hx hb hdg ht kt kf
    · exact lv_icmp_gt hx hb hdg ht kt kf
    · exact lv_icmp_le hx hb hdg ht kt kf
  case goto off =>
    simp only [ev_ok1, Bool.and_eq_true, decide_eq_true_eq] at hok
    obtain ⟨hl, ht⟩ := hok
    subst hl
    exact e2s_goto fun H locs k n ls rest hk => lv_goto hx hb hdg ht hk
  case iaload =>
    have hl : len = 1 := of_decide_eq_true hok
    subst hl
    refine e2s_ald (by decide) (by decide) (by decide) fun t t1 t2 H locs k' n ls rest ws a q0 N f i hP ha hin hk => ?_
    have ht : t = 0 := by omega
    subst ht
    exact va_iald hx hb hK hP q0 0 ha rfl hin hdg hk
  case baload =>
    have hl : len = 1 := of_decide_eq_true hok
    subst hl
    refine e2s_ald (by decide) (by decide) (by decide) fun t t1 t2 H locs k' n ls rest ws a q0 N f i hP ha hin hk => ?_
    have ht : t = 1 ∨ t = 2 := by omega
    rcases ht with rfl | rfl
    · exact va_bald hx hb hK hP q0 1 ha rfl hin hdg hk
    · exact va_zald hx hb hK hP q0 2 ha rfl hin hdg hk
  case iastore =>
    have hl : len = 1 := of_decide_eq_true hok
    subst hl
    exact e2s_iast fun H locs k' n ls rest ws a q0 N f i x hP hD hS ha hin hk => va_iast hx hb hK hP hD hS q0 0 ha rfl hin hdg hk
  case bastore =>
    have hl : len = 1 := of_decide_eq_true hok
    subst hl
    refine e2s_bast fun t ty ht H locs k' n ls rest ws a q0 N f i x hP hD hS ha hin hk => ?_
    rcases ht with ⟨rfl, rfl⟩ | ⟨rfl, rfl⟩
    · exact va_bast hx hb hK hP hD hS q0 1 ha rfl hin hdg hk
    · exact va_zast hx hb hK hP hD hS q0 2 ha rfl hin hdg hk
  case arraylength =>
    have hl : len = 1 := of_decide_eq_true hok
    subst hl
    refine e2s_alen fun t ht H locs k' n ls rest ws a q0 x hP ha hk => ?_
    match t, ht with
    | 0, _ => exact va_alen hx hb hK hP q0 0 ha rfl rfl hdg hk
    | 1, _ => exact va_alen hx hb hK hP q0 1 ha rfl rfl hdg hk
    | 2, _ => exact va_alen hx hb hK hP q0 2 ha rfl rfl hdg hk
    | 3, _ => exact va_alen hx hb hK hP q0 3 ha rfl rfl hdg hk
    | t + 4, ht => omega
  case getfield idx =>
    simp only [ev_ok1, Bool.and_eq_true, Bool.or_eq_true, decide_eq_true_eq] at hok
    obtain ⟨hl, hok⟩ := hok
    subst hl
    show e2_sd p l e R s m args below meth c Q nL D cA A ads r0 call F (if h4 = 9 then o2_none else o2_getf h1 h2) pc 3
    by_cases h : h4 = 9
    · rw [if_pos h]; exact e2s_none
    · rw [if_neg h]
      have hok := hok.resolve_left h
      cases hq : en_classes[h1]? with
      | none => rw [hq] at hok; exact absurd hok (by simp)
      | some q =>
        obtain ⟨C, T, N⟩ := q
        rw [hq] at hok
        simp only [Bool.and_eq_true, decide_eq_true_eq] at hok
        obtain ⟨⟨o1, o2⟩, o3⟩ := hok
        obtain ⟨e1, -, -⟩ := hen _ (List.mem_of_getElem? hq)
        refine e2s_getf o1 fun H locs k' n ls rest ws a q0 fs v hP ha hv hk => ?_
        by_cases h' : h3 = 1
        · rw [if_pos h'] at o3
          exact va_getN hx hb hts e1 hown hK hP q0 ha hq h2 o2 (va_Nw.use rfl (hNw _ (ev_wn_in o3))) (fun _ z => z) hv hdg hk
        · rw [if_neg h'] at o3
          exact va_get hx hb hts e1 hown hK hP q0 ha hq h2 o2 (hts _ (ev_w_in o3)) (fun _ z => z) hv hdg hk
  case putfield idx =>
    simp only [ev_ok1, Bool.and_eq_true, Bool.or_eq_true, decide_eq_true_eq] at hok
    obtain ⟨hl, hok⟩ := hok
    subst hl
    show e2_sd p l e R s m args below meth c Q nL D cA A ads r0 call F (if h4 = 9 then o2_none else o2_putf h1 h2 h4) pc 3
    by_cases h : h4 = 9
    · rw [if_pos h]; exact e2s_none
    · rw [if_neg h]
      have hok := hok.resolve_left h
      cases hq : en_classes[h1]? with
      | none => rw [hq] at hok; exact absurd hok (by simp)
      | some q =>
        obtain ⟨C, T, N⟩ := q
        rw [hq] at hok
        simp only [Bool.and_eq_true, decide_eq_true_eq] at hok
        obtain ⟨⟨⟨o1, o2, o3, o4⟩, o5⟩, o6⟩ := hok
        obtain ⟨e1, e2, e3⟩ := hen _ (List.mem_of_getElem? hq)
        refine e2s_putf o1 fun H locs k' n ls rest ws a q0 fs v hP hD hS ha hlt hfit hk => ?_
        obtain ⟨f1, f2⟩ := ev_fits_ty (e2 h2 o2) o3 o4 hfit
        by_cases h' : h3 = 1
        · rw [if_pos h'] at o5
          rw [if_neg (by omega)] at o6
          exact va_putN hx hb hts e1 (en_ty (C, T, N)) e2 e3 hown hK hP hD hS q0 ha hq h2 o2 (va_Nw.use rfl (hNw _ (ev_wn_in o5))) (fun _ z => z) (of_decide_eq_true o6) (e2 h2 o2) f1 f2 hlt hdg hk
        · rw [if_neg h'] at o5
          by_cases h'' : h3 = 2
          · rw [if_pos h''] at o6
            obtain ⟨z1, z2, z3⟩ := of_decide_eq_true o6
            exact va_putF hx hb hts e1 (en_ty (C, T, N)) e2 e3 hown hK hP hD hS q0 ha hq h2 o2 (hts _ (ev_w_in o5)) (fun _ z => z) z1 (hname z2) z3 (e2 h2 o2) f1 f2 hlt hdg hk
          · rw [if_neg h''] at o6
            exact va_put hx hb hts e1 (en_ty (C, T, N)) e2 e3 hown hK hP hD hS q0 ha hq h2 o2 (hts _ (ev_w_in o5)) (fun _ z => z) (of_decide_eq_true o6) (e2 h2 o2) f1 f2 hlt hdg hk
  case ireturn =>
    simp only [ev_ok1, Bool.and_eq_true, decide_eq_true_eq] at hok
    obtain ⟨hl, hok⟩ := hok
    subst hl
    refine e2s_iret fun r ws H locs ls w v E h hp hF hs hwo hS h9 h7 hrel hf => ?_
    rcases hok with ⟨rfl, hr2⟩ | ⟨rfl, hr2⟩
    · obtain ⟨x, rfl⟩ := hf
      exact hri hr2 r ws H locs ls x v E h hp hF hs hwo hS h9 h7 hrel hdg
    · obtain ⟨x, rfl, hx⟩ := hf
      exact hrz hr2 r ws H locs ls x v E h hp hF hs hwo hS h9 h7 hrel hx hdg
  case return_ =>
    simp only [ev_ok1, Bool.and_eq_true, decide_eq_true_eq] at hok
    obtain ⟨hl, hok⟩ := hok
    subst hl
    exact e2s_vret fun r ws H locs ls E h hp hF hs hwo hS => hrv hok r ws H locs ls E h hp hF hs hwo hS hdg
  case invokevirtual idx =>
    simp only [ev_ok1, Bool.and_eq_true, Bool.or_eq_true, decide_eq_true_eq] at hok
    obtain ⟨hl, hok⟩ := hok
    subst hl
    show e2_sd p l e R s m args below meth c Q nL D cA A ads r0 call F (if h3 = 9 then o2_none else o2_virt h1 h2 h4) pc 3
    by_cases h : h3 = 9
    · rw [if_pos h]; exact e2s_none
    · rw [if_neg h]
      have hok := hok.resolve_left h
      obtain ⟨M, o1, o2, o3, o4, o5, o6, o7, o8⟩ := ev_nop_ok hok
      simp only [Bool.and_eq_true, decide_eq_true_eq] at o2
      obtain ⟨o2, o9, o10, o11⟩ := o2
      cases hq : en_classes[h4]? with
      | none => rw [hq] at o11; cases o11
      | some q =>
        obtain ⟨C, T, N⟩ := q
        rw [hq] at o11
        have hC : C = M.1.cls := Option.some.inj o11
        subst hC
        refine e2s_virt (M := M) rfl o10 hq hcx (hcall h1 M o1) fun H locs cells slots mc ms ls rest As b Pc Qc free hM hp hn hsz hsum hf => ?_
        by_cases h'' : h3 = 1
        · exact va_runVN ⟨hx, hb, hml, hown, hts⟩ hM ⟨e2_callN (mc := mc) (ms := ms) hcx (o3 h'') o5 o6 o7 o8, hts _ (ev_w_in o2), hts _ (ev_w_in o9)⟩ hp rfl hn hsz rfl (by show 2 * 0 + _ ≤ 8; omega) hdg hf
        · exact va_runV ⟨hx, hb, hml, hown, hts⟩ hM ⟨e2_callB (mc := mc) (ms := ms) hcx (o4 h'') o5 o6 o7 o8, hts _ (ev_w_in o2), hts _ (ev_w_in o9)⟩ hp rfl hn hsz rfl (by show 2 * 0 + _ ≤ 8; omega) hdg hf
  case invokestatic idx =>
    simp only [ev_ok1, Bool.and_eq_true, Bool.or_eq_true, decide_eq_true_eq] at hok
    obtain ⟨hl, hok⟩ := hok
    subst hl
    show e2_sd p l e R s m args below meth c Q nL D cA A ads r0 call F (if h3 = 9 then (if h4 = 7 then o2_mm eb_max tr_max else o2_none) else if h3 = 6 then o2_mm eb_min tr_min else if h3 = 5 then o2_copy else o2_stat h1 h2) pc 3
    by_cases h : h3 = 9
    · rw [if_pos h]
      by_cases h7 : h4 = 7
      · rw [if_pos h7]
        simp only [e2_x1, Bool.or_eq_true, Bool.and_eq_true, decide_eq_true_eq] at hok2
        obtain ⟨o1, o2, o3, o4⟩ := hok2.resolve_left (fun z => z ⟨h, h7⟩)
        exact e2s_mm tr_max_ok.tro fun H locs ls rest x y hsz hsum hk => va_mmax hx hb (by rw [hml]; exact hsz.symm) hown (hts _ (ev_w_in o1)) (hts _ (ev_w_in o4)) (hts _ (ev_w_in o3)) (hts _ (ev_w_in o2)) (by omega) (by omega) (Nat.zero_le _) (Nat.zero_le _) hdg hk
      · rw [if_neg h7]; exact e2s_none
    · rw [if_neg h]
      have hok := hok.resolve_left h
      by_cases h6 : h3 = 6
      · rw [if_pos h6] at hok ⊢
        simp only [Bool.and_eq_true] at hok
        obtain ⟨o1, o2, o3, o4⟩ := hok
        exact e2s_mm tr_min_ok.tro fun H locs ls rest x y hsz hsum hk => va_mmin hx hb (by rw [hml]; exact hsz.symm) hown (hts _ (ev_w_in o1)) (hts _ (ev_w_in o4)) (hts _ (ev_w_in o3)) (hts _ (ev_w_in o2)) (by omega) (by omega) (Nat.zero_le _) (Nat.zero_le _) hdg hk
      rw [if_neg h6] at hok ⊢
      by_cases h' : h3 = 5
      · rw [if_pos h'] at hok ⊢
        simp only [Bool.and_eq_true] at hok
        obtain ⟨o1, o2, o3, o4⟩ := hok
        refine e2s_copy fun H locs k' n' ls rest ws a0 a1 q0 q1 N0 N1 f g sp dp n hP hD hS ha0 ha1 z1 z2 z3 z4 z5 hsz hsum hk => ?_
        exact va_copyi hx hb (by rw [hml]; exact hsz.symm) hown (hts _ (ev_w_in o1)) (hts _ (ev_w_in o2)) (hts _ (ev_w_in o3)) (hts _ (ev_w_in o4)) hK hP hD hS q0 q1 0 0 ha0 ha1 rfl rfl rfl z1 z2 z3 z4 z5 (fun _ _ => rfl) (by omega) (by show _ + (7 + 11) ≤ _; omega) hdg hk
      · rw [if_neg h'] at hok ⊢
        obtain ⟨M, o1, o2, o3, o4, o5, o6, o7, o8⟩ := ev_nop_ok hok
        refine e2s_stat (M := M) rfl hcx (hcall h1 M o1) fun H locs cells slots mc ms ls rest As Pc Qc free hM hp hn hsz hsum hf => ?_
        by_cases h'' : h3 = 1
        · exact va_runSN ⟨hx, hb, hml, hown, hts⟩ hM ⟨e2_callN (mc := mc) (ms := ms) hcx (o3 h'') o5 o6 o7 o8, hts _ (ev_w_in o2), trivial⟩ hp rfl hn hsz rfl (by show 2 * 0 + _ ≤ 8; omega) hdg hf
        · exact va_runS ⟨hx, hb, hml, hown, hts⟩ hM ⟨e2_callB (mc := mc) (ms := ms) hcx (o4 h'') o5 o6 o7 o8, hts _ (ev_w_in o2)⟩ hp rfl hn hsz rfl (by show 2 * 0 + _ ≤ 8; omega) hdg hf
  case ldc2_w idx =>
    simp only [e2_x1, Bool.and_eq_true, Bool.or_eq_true, decide_eq_true_eq] at hok2
    obtain ⟨hl, hok2⟩ := hok2
    subst hl
    show e2_sd p l e R s m args below meth c Q nL D cA A ads r0 call F (if h4 = 1 then o2_push (4, h1, 0) else o2_none) pc 3
    by_cases h : h4 = 1
    · rw [if_pos h]
      have hw := hts _ (ev_w_in (hok2.resolve_left (fun z => z h)))
      exact e2s_push (v := (4, h1, 0)) (w := .long (Int64.ofNat h1)) (by show (4 : Nat) ≠ 7; decide) (fun ads r => rfl) fun H locs k n ls rest hk => lv_ldc2 hx hb hown hw hdg hk
    · rw [if_neg h]
      exact e2s_none
  case lload_n i =>
    have hl : len = 1 := of_decide_eq_true hok2
    subst hl
    exact e2s_lload fun H locs k n ls rest x hx' hk => lv_lload_n hx hb hdg rfl hx' hk
  case lstore_n i =>
    have hl : len = 1 := of_decide_eq_true hok2
    subst hl
    exact e2s_lstore fun H locs k n ls lv rest x hlv hi hk => lv_lstore_n hx hb hdg rfl hlv hi rfl hk
  case i2l =>
    have hl : len = 1 := of_decide_eq_true hok2
    subst hl
    exact e2s_i2l fun H locs k n ls rest x hk => lv_i2l hx hb hdg rfl (hk _)
  case ladd =>
    have hl : len = 1 := of_decide_eq_true hok2
    subst hl
    exact e2s_l2 fun H locs k n ls rest x y hk => lv_ladd hx hb hdg (hk _)
  case lmul =>
    have hl : len = 1 := of_decide_eq_true hok2
    subst hl
    exact e2s_l2 fun H locs k n ls rest x y hk => lv_lmul hx hb hdg (hk _)
  case lor =>
    have hl : len = 1 := of_decide_eq_true hok2
    subst hl
    exact e2s_l2 fun H locs k n ls rest x y hk => lv_lor hx hb hdg (hk _)
  case lshl =>
    have hl : len = 1 := of_decide_eq_true hok2
    subst hl
    exact e2s_lsh fun H locs k n ls rest x y hk => lv_lshl hx hb hdg rfl (hk _)
  case lcmp =>
    have hl : len = 1 := of_decide_eq_true hok2
    subst hl
    refine e2s_lcmp fun H locs k n ls rest x y hk => W.lcmp hx hb hdg (hk _ ?_ ?_ ?_)
    · exact e2_cmp0 x y
    · exact (e2_cmpb x y).1
    · exact (e2_cmpb x y).2
  case laload =>
    have hl : len = 1 := of_decide_eq_true hok2
    subst hl
    exact e2s_lald fun H locs k' n ls rest ws a q0 N f i hP ha hin hk => va_lald hx hb hK hP q0 3 ha rfl hin hdg hk
  case lastore =>
    have hl : len = 1 := of_decide_eq_true hok2
    subst hl
    exact e2s_last fun H locs k' n ls rest ws a q0 N f i x hP hD hS ha hin hk => va_last hx hb hK hP hD hS q0 3 ha rfl hin hdg (hk _)
  case lreturn =>
    simp only [e2_x1, Bool.and_eq_true, decide_eq_true_eq] at hok2
    obtain ⟨hl, hr2⟩ := hok2
    subst hl
    refine e2s_iret fun r ws H locs ls w v E h hp hF hs hwo hS h9 h7 hrel hf => ?_
    obtain ⟨x, rfl⟩ := hf
    exact hrl hr2 r ws H locs ls x v E h hp hF hs hwo hS h9 h7 hrel hdg
  case tableswitch dd lo hi offs =>
    simp only [ev_ok1, Bool.and_eq_true, decide_eq_true_eq, List.all_eq_true] at hok
    obtain ⟨⟨o1, o2, o3⟩, o4⟩ := hok
    refine e2s_sw fun H locs k n ls rest x kt kd => ?_
    have hkx := ev_key_int x
    have hsz : offs.toList.length = offs.size := by simp
    by_cases hin : lo ≤ x.toInt ∧ x.toInt ≤ hi
    · have hlt : (x.toInt - lo).toNat < offs.toList.length := by omega
      obtain ⟨off, ho⟩ : ∃ off, offs.toList[(x.toInt - lo).toNat]? = some off := ⟨_, List.getElem?_eq_getElem hlt⟩
      have h0 := o4 off (List.mem_of_getElem? ho)
      refine lv_tableIn (off := off) (tgt := ev_tgt pc off) hx hb hdg (by omega) (by omega) ?_ (by unfold ev_tgt; omega) (kt (ev_key x, ev_tgt pc off) (e2_tt_in.mpr ⟨by omega, ?_⟩) rfl)
      · rw [← ho]; simp
      · rw [List.getElem?_map, show ev_key x - (lo + 2147483648).toNat = (x.toInt - lo).toNat by omega, ho]; rfl
    · refine lv_tableOut (tgt := ev_tgt pc dd) hx hb hdg (by omega) (by unfold ev_tgt; omega) (kd fun q hq hk => ?_)
      obtain ⟨g1, g2⟩ := e2_tt_in.mp hq
      have := (List.getElem?_eq_some_iff.mp g2).1
      rw [List.length_map] at this
      omega
  case lookupswitch dd ps =>
    show e2_sd p l e R s m args below meth c Q nL D cA A ads r0 call F (if h4 = 2 then o2_sw (e2_lk pc ps) (ev_tgt pc dd) else o2_none) pc len
    by_cases h : h4 = 2
    · rw [if_pos h]
      have hz : 0 ≤ (pc : Int) + dd ∧ (ps.toList.zip (ps.toList.drop 1)).all (fun (a, next) => a.1 < next.1) = true ∧ ∀ q ∈ ps.toList, 0 ≤ (pc : Int) + q.2 ∧ -2147483648 ≤ q.1 := by
        simp only [e2_x1, Bool.and_eq_true, Bool.or_eq_true, decide_eq_true_eq, List.all_eq_true] at hok2
        have hz := hok2.resolve_left (fun z => z h)
        exact ⟨hz.1, by simpa [List.all_eq_true] using hz.2.1, hz.2.2⟩
      obtain ⟨o1, o3, o4⟩ := hz
      refine e2s_sw fun H locs k n ls rest x kt kd => ?_
      have hkx := ev_key_int x
      rcases e2_off ps.toList dd x.toInt with ⟨q, q1, q2, q3⟩ | ⟨q1, q2⟩
      · obtain ⟨g1, g2⟩ := o4 q q1
        exact lv_lookup (off := q.2) (tgt := ev_tgt pc q.2) hx hb hdg o3 q3 (by unfold ev_tgt; omega) (kt ((q.1 + 2147483648).toNat, ev_tgt pc q.2) (List.mem_map.mpr ⟨q, q1, rfl⟩) (show ev_key x = (q.1 + 2147483648).toNat by omega))
      · refine lv_lookup (off := dd) (tgt := ev_tgt pc dd) hx hb hdg o3 q2 (by unfold ev_tgt; omega) (kd fun q hq hk => ?_)
        obtain ⟨q', g1, rfl⟩ := List.mem_map.mp hq
        obtain ⟨g2, g3⟩ := o4 q' g1
        have hk : ev_key x = (q'.1 + 2147483648).toNat := hk
        exact q1 q' g1 (by omega)
    · rw [if_neg h]
      exact e2s_none
  all_goals exact e2s_none
end E2Sem
