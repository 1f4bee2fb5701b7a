/-! STRING CONSTANTS: their lengths and letters -/
def st_F (adK adV : Nat → Nat) (A : Nat → Prop) (U : State) : Prop := va_Z "java/lang/String" "COMPACT_STRINGS" "Z" (.int 1) A U U.heap ∧ va_Zq "jdk/internal/util/Preconditions" "SIOOBE_FORMATTER" "Ljava/util/function/BiFunction;" A U U.heap ∧ vk_S 2 e2_slen e2_sbyt adK adV A U U.heap
theorem st_F.into {adK adV : Nat → Nat} {A B : Nat → Prop} {s U : State} {H : Heap} {locs : List Loc} (h : st_F adK adV A s) (hS : va_S A s.heap H locs) (hW : s.WarmedH U.vm) (hU : U.heap = H) (hB : ∀ q, B q → A q) : st_F adK adV B U := by
  obtain ⟨h1, h2, h3⟩ := h
  unfold st_F
  rw [hU]
  exact ⟨((h1.moved hW.alike).kept hS.2.1).narrow hB, ((h2.moved hW.alike).kept hS.2.1).narrow hB, ((h3.moved hW.alike).kept hS.2.1).narrow hB⟩
def st_Pc (adK adV : Nat → Nat) (vs : List Value) : Array Value → State → Prop := va_Pc vs (fun U => st_F adK adV (fun q => U.heap.size ≤ q) U)
def st_Qc (oc : Option Value) : Array Value → State → Outcome → State → Prop := fun _ st o t => o = .returned oc ∧ t.heap = st.heap
theorem st_Pc.blind {adK adV : Nat → Nat} {vs : List Value} : FrameBlind (st_Pc adK adV vs) := fun a U g mk q => by
  obtain ⟨q0, q1, q2, q3⟩ := q
  have ha : U.vm.Alike (U.calling g mk a).vm := Vm.Alike.refl U.vm
  exact ⟨q0, q1.moved ha, q2.moved ha, q3.moved ha⟩
theorem st_met {l : Launch} {M : ev_M} {d : Nat} {vs : List Value} {oc : Option Value} {adK adV : Nat → Nat} (hpl : plainName M.1.cls = true) (hlen : (lg_sl vs).length ≤ M.2.2.1)
    (hg : ∀ (p : Program) (e : Env) (R : Room) (s : State) (m : MethodId) (args : Array Value) (below : List Frame) (meth : Method) (c : Code) (ls : Array Slot), p.tables.exec = Jvm.exec → c.code = M.2.1 → meth.sig.returnType = M.2.2.2 → meth.locks = false → (∀ w ∈ en_WS, w.before args s = true) → s.vm.findClass M.1.cls = some m.cls → c.maxLocals = M.2.2.1 → R.frames = d + 1 → R.locals = 60 * (d + 1) → st_F adK adV (fun q => s.heap.size ≤ q) s → lv_has ls M.2.2.1 (lv_args 0 vs) → W p l e R s m args below meth c s.heap [] 0 0 (MQ below (st_Qc oc) args s 0 0 (fun _ => False)) (F0 m 0 ls [])) : Met l M.1 (ev_ws M) (ev_rm (d + 1) 0 0) (st_Pc adK adV vs) (st_Qc oc) 0 0 (fun _ => False) := by
  refine Met.ofW (cc := M.2.1) (maxL := M.2.2.1) (ret := M.2.2.2) hpl rfl ?_
  intro p e s m args below meth c s₁ B hml hv
  obtain ⟨rfl, hF⟩ := hv
  have hts := atoms_spec (ws := ev_ws M) B.pre
  have hown : s.vm.findClass M.1.cls = some m.cls := findClass_of_methodNamed B.named
  rw [lg_entry_eq]
  exact hg p e _ s m vs.toArray below meth c _ B.exec B.bytes B.returns (BodyLoose.notSynchronized B) (fun w hw => hts w (List.mem_cons_of_mem _ hw)) hown hml rfl rfl hF (lv_entry vs (n := M.2.2.1) hlen)
section StC
variable {p : Program} {l : Launch} {e : Env} {R : Room} {s : State} {m : MethodId} {args : Array Value} {below : List Frame} {meth : Method} {c : Code} {Q : State → Prop} {pc : Nat}
theorem st_call {H : Heap} {locs : List Loc} {cells slots : Nat} {ls : Array Slot} {st0 rest : List Value} {oc : Option Value} {a : Array Value} (hr : va_Run p l e R s m args below meth c H locs cells slots 0 0 (F0 m pc ls st0) rest (st_Qc oc a) (fun _ => False)) (kk : W p l e R s m args below meth c H locs cells slots Q (F0 m (pc + 3) ls (oc.toList ++ rest))) : W p l e R s m args below meth c H locs cells slots Q (F0 m pc ls st0) := by
  intro T hT X
  obtain ⟨v, st₀, t, T', L, h0, X', hL, e1, e2, ⟨hv, ht⟩, st⟩ := hr T hT X
  cases hv
  cases L with
  | cons q L => exact absurd (hL q List.mem_cons_self) id
  | nil =>
    rw [List.append_nil] at X'
    obtain ⟨t2, a1, b1⟩ := kk T' (by rw [e1, ht, h0]) X'
    exact ⟨t2, st t2 a1, b1⟩
theorem st_callB {M : ev_M} {idx n d : Nat} {own : String} (hts : ∀ w ∈ en_WS, w.before args s = true) (r1 : R.frames = d + 1) (r2 : R.locals = 60 * (d + 1)) (h1 : Cond.methodLink own idx M.1 ∈ en_WS) (h2 : Cond.code M.1 M.2.1 M.2.2.1 M.2.2.2 ∈ en_WS) (h3 : Cond.initialized M.1.cls ∈ en_WS) (h4 : M.1.cls ≠ "java/lang/invoke/MethodHandle" ∧ M.1.cls ≠ "java/lang/invoke/VarHandle" ∧ (parseMethodDescriptor M.1.desc).map (fun d => d.parameters.length) = some n) (h5 : M.2.2.1 ≤ 41) : CallB R s args own idx M.1 M.2.1 M.2.2.1 M.2.2.2 (ev_ws M) (ev_rm d 0 0) 0 0 n :=
  callB_of n hts (ev_goodIn h2) rfl rfl rfl (hts _ h3) (hts _ h1) h4 ⟨by rw [r1]; exact Nat.le_refl _, by rw [r2]; show 8 + (M.2.2.1 + 11) + 60 * d ≤ _; omega⟩
end StC

def st_len : ev_M := (⟨"java/lang/String", "length", "()I"⟩, prog_15_method_54_code, 1, some .int)
def st_cod : ev_M := (⟨"java/lang/String", "coder", "()B"⟩, prog_15_method_152_code, 1, some .byte)
def st_cha : ev_M := (⟨"java/lang/String", "charAt", "(I)C"⟩, prog_15_method_56_code, 2, some .char)
def st_lat : ev_M := (⟨"java/lang/String", "isLatin1", "()Z"⟩, prog_15_method_154_code, 1, some .boolean)
def st_lch : ev_M := (⟨"java/lang/StringLatin1", "charAt", "([BI)C"⟩, prog_16_method_2_code, 2, some .char)
def st_chk : ev_M := (⟨"java/lang/String", "checkIndex", "(II)V"⟩, prog_15_method_155_code, 2, none)
def st_pre : ev_M := (⟨"jdk/internal/util/Preconditions", "checkIndex", "(IILjava/util/function/BiFunction;)I"⟩, prog_19_method_11_code, 3, some .int)
theorem st_len_c : Cond.code st_len.1 st_len.2.1 st_len.2.2.1 st_len.2.2.2 ∈ en_WS := ev_w_in (ws := [3047]) (n := 0) (by decide +kernel)
theorem st_len_i : Cond.initialized st_len.1.cls ∈ en_WS := ev_w_in (ws := [1013]) (n := 0) (by decide +kernel)
theorem st_cod_c : Cond.code st_cod.1 st_cod.2.1 st_cod.2.2.1 st_cod.2.2.2 ∈ en_WS := ev_w_in (ws := [3051]) (n := 0) (by decide +kernel)
theorem st_cod_i : Cond.initialized st_cod.1.cls ∈ en_WS := ev_w_in (ws := [1013]) (n := 0) (by decide +kernel)
theorem st_cha_c : Cond.code st_cha.1 st_cha.2.1 st_cha.2.2.1 st_cha.2.2.2 ∈ en_WS := ev_w_in (ws := [3057]) (n := 0) (by decide +kernel)
theorem st_cha_i : Cond.initialized st_cha.1.cls ∈ en_WS := ev_w_in (ws := [1013]) (n := 0) (by decide +kernel)
theorem st_lat_c : Cond.code st_lat.1 st_lat.2.1 st_lat.2.2.1 st_lat.2.2.2 ∈ en_WS := ev_w_in (ws := [3061]) (n := 0) (by decide +kernel)
theorem st_lat_i : Cond.initialized st_lat.1.cls ∈ en_WS := ev_w_in (ws := [1013]) (n := 0) (by decide +kernel)
theorem st_lch_c : Cond.code st_lch.1 st_lch.2.1 st_lch.2.2.1 st_lch.2.2.2 ∈ en_WS := ev_w_in (ws := [3064]) (n := 0) (by decide +kernel)
theorem st_lch_i : Cond.initialized st_lch.1.cls ∈ en_WS := ev_w_in (ws := [1014]) (n := 0) (by decide +kernel)
theorem st_chk_c : Cond.code st_chk.1 st_chk.2.1 st_chk.2.2.1 st_chk.2.2.2 ∈ en_WS := ev_w_in (ws := [3067]) (n := 0) (by decide +kernel)
theorem st_chk_i : Cond.initialized st_chk.1.cls ∈ en_WS := ev_w_in (ws := [1013]) (n := 0) (by decide +kernel)
theorem st_pre_c : Cond.code st_pre.1 st_pre.2.1 st_pre.2.2.1 st_pre.2.2.2 ∈ en_WS := ev_w_in (ws := [3072]) (n := 0) (by decide +kernel)
theorem st_pre_i : Cond.initialized st_pre.1.cls ∈ en_WS := ev_w_in (ws := [1015]) (n := 0) (by decide +kernel)
theorem st_len_n : Cond.instanceMethod st_len.1 ∈ en_WS := ev_w_in (ws := [3045]) (n := 0) (by decide +kernel)
theorem st_len_s : Cond.selects "java/lang/String" st_len.1 st_len.1 ∈ en_WS := ev_w_in (ws := [3046]) (n := 0) (by decide +kernel)
theorem st_cod_n : Cond.instanceMethod st_cod.1 ∈ en_WS := ev_w_in (ws := [3049]) (n := 0) (by decide +kernel)
theorem st_cod_s : Cond.selects "java/lang/String" st_cod.1 st_cod.1 ∈ en_WS := ev_w_in (ws := [3050]) (n := 0) (by decide +kernel)
theorem st_cha_n : Cond.instanceMethod st_cha.1 ∈ en_WS := ev_w_in (ws := [3055]) (n := 0) (by decide +kernel)
theorem st_cha_s : Cond.selects "java/lang/String" st_cha.1 st_cha.1 ∈ en_WS := ev_w_in (ws := [3056]) (n := 0) (by decide +kernel)
theorem st_lat_n : Cond.instanceMethod st_lat.1 ∈ en_WS := ev_w_in (ws := [3059]) (n := 0) (by decide +kernel)
theorem st_lat_s : Cond.selects "java/lang/String" st_lat.1 st_lat.1 ∈ en_WS := ev_w_in (ws := [3060]) (n := 0) (by decide +kernel)
theorem st_lch_z : Cond.static st_lch.1 ∈ en_WS := ev_w_in (ws := [3063]) (n := 0) (by decide +kernel)
theorem st_chk_z : Cond.static st_chk.1 ∈ en_WS := ev_w_in (ws := [3066]) (n := 0) (by decide +kernel)
theorem st_pre_z : Cond.static st_pre.1 ∈ en_WS := ev_w_in (ws := [3071]) (n := 0) (by decide +kernel)
theorem st_len_l : Cond.methodLink "MeadowSigns$Tape" 65 st_len.1 ∈ en_WS := ev_w_in (ws := [3044]) (n := 0) (by decide +kernel)
theorem st_cha_l : Cond.methodLink "MeadowSigns$Tape" 69 st_cha.1 ∈ en_WS := ev_w_in (ws := [3054]) (n := 0) (by decide +kernel)
theorem st_cod_l : Cond.methodLink "java/lang/String" 335 st_cod.1 ∈ en_WS := ev_w_in (ws := [3048]) (n := 0) (by decide +kernel)
theorem st_lat_l : Cond.methodLink "java/lang/String" 492 st_lat.1 ∈ en_WS := ev_w_in (ws := [3058]) (n := 0) (by decide +kernel)
theorem st_lch_l : Cond.methodLink "java/lang/String" 495 st_lch.1 ∈ en_WS := ev_w_in (ws := [3062]) (n := 0) (by decide +kernel)
theorem st_chk_l : Cond.methodLink "java/lang/StringLatin1" 9 st_chk.1 ∈ en_WS := ev_w_in (ws := [3065]) (n := 0) (by decide +kernel)
theorem st_pre_l : Cond.methodLink "java/lang/String" 1059 st_pre.1 ∈ en_WS := ev_w_in (ws := [3070]) (n := 0) (by decide +kernel)
theorem st_val_f : Cond.fieldLink "java/lang/String" 9 "java/lang/String" "value" "[B" ∈ en_WS := ev_w_in (ws := [8237]) (n := 0) (by decide +kernel)
theorem st_cdr_f : Cond.fieldLink "java/lang/String" 15 "java/lang/String" "coder" "B" ∈ en_WS := ev_w_in (ws := [8238]) (n := 0) (by decide +kernel)
theorem st_cmp_f : Cond.fieldLink "java/lang/String" 38 "java/lang/String" "COMPACT_STRINGS" "Z" ∈ en_WS := ev_w_in (ws := [3052]) (n := 0) (by decide +kernel)
theorem st_fmt_f : Cond.fieldLink "java/lang/String" 1053 "jdk/internal/util/Preconditions" "SIOOBE_FORMATTER" "Ljava/util/function/BiFunction;" ∈ en_WS := ev_w_in (ws := [3068]) (n := 0) (by decide +kernel)
theorem st_len_d : st_len.1.cls ≠ "java/lang/invoke/MethodHandle" ∧ st_len.1.cls ≠ "java/lang/invoke/VarHandle" ∧ (parseMethodDescriptor st_len.1.desc).map (fun d => d.parameters.length) = some 0 := by decide +kernel
theorem st_cod_d : st_cod.1.cls ≠ "java/lang/invoke/MethodHandle" ∧ st_cod.1.cls ≠ "java/lang/invoke/VarHandle" ∧ (parseMethodDescriptor st_cod.1.desc).map (fun d => d.parameters.length) = some 0 := by decide +kernel
theorem st_cha_d : st_cha.1.cls ≠ "java/lang/invoke/MethodHandle" ∧ st_cha.1.cls ≠ "java/lang/invoke/VarHandle" ∧ (parseMethodDescriptor st_cha.1.desc).map (fun d => d.parameters.length) = some 1 := by decide +kernel
theorem st_lat_d : st_lat.1.cls ≠ "java/lang/invoke/MethodHandle" ∧ st_lat.1.cls ≠ "java/lang/invoke/VarHandle" ∧ (parseMethodDescriptor st_lat.1.desc).map (fun d => d.parameters.length) = some 0 := by decide +kernel
theorem st_lch_d : st_lch.1.cls ≠ "java/lang/invoke/MethodHandle" ∧ st_lch.1.cls ≠ "java/lang/invoke/VarHandle" ∧ (parseMethodDescriptor st_lch.1.desc).map (fun d => d.parameters.length) = some 2 := by decide +kernel
theorem st_chk_d : st_chk.1.cls ≠ "java/lang/invoke/MethodHandle" ∧ st_chk.1.cls ≠ "java/lang/invoke/VarHandle" ∧ (parseMethodDescriptor st_chk.1.desc).map (fun d => d.parameters.length) = some 2 := by decide +kernel
theorem st_pre_d : st_pre.1.cls ≠ "java/lang/invoke/MethodHandle" ∧ st_pre.1.cls ≠ "java/lang/invoke/VarHandle" ∧ (parseMethodDescriptor st_pre.1.desc).map (fun d => d.parameters.length) = some 3 := by decide +kernel
theorem st_cod_met {l : Launch} {d i : Nat} {adK adV : Nat → Nat} (hi : i < 2) : Met l st_cod.1 (ev_ws st_cod) (ev_rm (d + 1) 0 0) (st_Pc adK adV [.ref (adK i)]) (st_Qc (some (.int 0))) 0 0 (fun _ => False) := by
  refine st_met (by decide +kernel) (Nat.le_refl 1) fun p e R s m args below meth c ls hx hb hr hlk hts hown hml r1 r2 hF hlv => ?_
  have hS : va_S (fun q => s.heap.size ≤ q) s.heap s.heap [] := va_S.rf
  refine va_gets hx hb hF.1 hS hown (hts _ st_cmp_f) (fun _ h => h) (by decide +kernel) (lv_if_eq hx hb (off := 10) (tgt := 13) (by decide +kernel) rfl (fun z => absurd z (by decide)) (fun _ => ?_))
  refine lv_aload_n (i := 0) hx hb (k := 0) (by decide +kernel) rfl (lv_at hlv 0 rfl) (vk_getf hx hb (hF.2.2.1 i hi).2.1 hS hown (hts _ st_cdr_f) (fun _ h => h) (by decide +kernel) (lv_goto hx hb (off := 4) (tgt := 14) (by decide +kernel) rfl ?_))
  exact W.zret hx hb hr (by decide) (fun t ht _ => ⟨rfl, ht⟩) (fun q hq => by cases hq) (by decide +kernel)
theorem st_len_met {l : Launch} {d i : Nat} {adK adV : Nat → Nat} (hi : i < 2) : Met l st_len.1 (ev_ws st_len) (ev_rm (d + 2) 0 0) (st_Pc adK adV [.ref (adK i)]) (st_Qc (some (.int (ev_i (e2_slen.getD i 0))))) 0 0 (fun _ => False) := by
  refine st_met (d := d + 1) (by decide +kernel) (Nat.le_refl 1) fun p e R s m args below meth c ls hx hb hr hlk hts hown hml r1 r2 hF hlv => ?_
  have hS : va_S (fun q => s.heap.size ≤ q) s.heap s.heap [] := va_S.rf
  have hA : ∀ q : Nat, s.heap.size ≤ q → s.heap.size ≤ q := fun _ h => h
  refine lv_aload_n (i := 0) hx hb (k := 0) (by decide +kernel) rfl (lv_at hlv 0 rfl) (vk_getf hx hb (hF.2.2.1 i hi).2.2.1 hS hown (hts _ st_val_f) (fun _ h => h) (by decide +kernel) (va_tlen hx hb (hF.2.2.1 i hi).2.2.2 hS rfl (by decide +kernel) (lv_aload_n (i := 0) hx hb (k := 0) (by decide +kernel) rfl (lv_at hlv 0 rfl) ?_)))
  refine st_call (va_runV (As := []) ⟨hx, hb, hml, hown, hts⟩ (st_cod_met (d := d) hi) ⟨st_callB hts r1 r2 st_cod_l st_cod_c st_cod_i st_cod_d (by decide), hts _ st_cod_n, hts _ st_cod_s⟩ ⟨st_Pc.blind, vk_recv hF.2.2 hi hS, fun U hU hW => ⟨rfl, hF.into hS hW hU (fun q hq => by rw [hU] at hq; exact hq)⟩⟩ rfl rfl hlv.1 rfl (by show 2 * 0 + 1 ≤ 8; decide) (show decode prog_15_method_54_code 6 = .ok (.invokevirtual 335, 3) by decide +kernel) ⟨Nat.zero_le _, Nat.zero_le _⟩) ?_
  refine lv_ishr hx hb (by decide +kernel) ?_
  have h0 : ∀ i, i < 2 → Int32.ofNat (e2_slen.getD i 0) >>> ((0 : Int32) &&& 31) = ev_i (e2_slen.getD i 0) := by decide +kernel
  rw [h0 i hi]
  exact W.iret hx hb hr (fun t ht _ => ⟨rfl, ht⟩) (fun q hq => by cases hq) (by decide +kernel)
theorem st_lat_met {l : Launch} {d i : Nat} {adK adV : Nat → Nat} (hi : i < 2) : Met l st_lat.1 (ev_ws st_lat) (ev_rm (d + 1) 0 0) (st_Pc adK adV [.ref (adK i)]) (st_Qc (some (.int 1))) 0 0 (fun _ => False) := by
  refine st_met (by decide +kernel) (Nat.le_refl 1) fun p e R s m args below meth c ls hx hb hr hlk hts hown hml r1 r2 hF hlv => ?_
  have hS : va_S (fun q => s.heap.size ≤ q) s.heap s.heap [] := va_S.rf
  refine va_gets hx hb hF.1 hS hown (hts _ st_cmp_f) (fun _ h => h) (by decide +kernel) (lv_if_eq hx hb (off := 14) (tgt := 17) (by decide +kernel) rfl (fun z => absurd z (by decide)) (fun _ => ?_))
  refine lv_aload_n (i := 0) hx hb (k := 0) (by decide +kernel) rfl (lv_at hlv 0 rfl) (vk_getf hx hb (hF.2.2.1 i hi).2.1 hS hown (hts _ st_cdr_f) (fun _ h => h) (by decide +kernel) (lv_if_ne hx hb (off := 7) (tgt := 17) (by decide +kernel) rfl (fun z => absurd rfl z) (fun _ => ?_)))
  refine lv_iconst hx hb (n := 1) (by decide +kernel) rfl (lv_goto hx hb (off := 4) (tgt := 18) (by decide +kernel) rfl ?_)
  exact W.zret hx hb hr (by decide) (fun t ht _ => ⟨rfl, ht⟩) (fun q hq => by cases hq) (by decide +kernel)
theorem st_pre_met {l : Launch} {d : Nat} {adK adV : Nat → Nat} {x y : Int32} {v : Value} (hv : v.category = 1) (h0 : ¬ x < 0) (hxy : x < y) : Met l st_pre.1 (ev_ws st_pre) (ev_rm (d + 1) 0 0) (st_Pc adK adV [.int x, .int y, v]) (st_Qc (some (.int x))) 0 0 (fun _ => False) := by
  refine st_met (by decide +kernel) (by show (lg_sl [Value.int x, .int y, v]).length ≤ 3; simp [lg_sl, hv, show (Value.int x).category = 1 from rfl, show (Value.int y).category = 1 from rfl]) fun p e R s m args below meth c ls hx hb hr hlk hts hown hml r1 r2 hF hlv => ?_
  have e0 := lv_at hlv 0 (i := 0) (v := .int x) rfl
  have e1 := lv_at hlv 1 (i := 1) (v := .int y) rfl
  refine lv_iload_n (i := 0) hx hb (k := 0) (by decide +kernel) rfl e0 (lv_if_lt hx hb (off := 8) (tgt := 9) (by decide +kernel) rfl (fun z => absurd z h0) (fun _ => ?_))
  refine lv_iload_n (i := 0) hx hb (k := 0) (by decide +kernel) rfl e0 (lv_iload_n (i := 1) hx hb (k := 1) (by decide +kernel) rfl e1 (lv_icmp_lt hx hb (off := 10) (tgt := 16) (by decide +kernel) rfl (fun _ => ?_) (fun z => absurd hxy z)))
  refine lv_iload_n (i := 0) hx hb (k := 0) (by decide +kernel) rfl e0 ?_
  exact W.iret hx hb hr (fun t ht _ => ⟨rfl, ht⟩) (fun q hq => by cases hq) (by decide +kernel)
theorem st_chk_met {l : Launch} {d : Nat} {adK adV : Nat → Nat} {x y : Int32} (h0 : ¬ x < 0) (hxy : x < y) : Met l st_chk.1 (ev_ws st_chk) (ev_rm (d + 2) 0 0) (st_Pc adK adV [.int x, .int y]) (st_Qc none) 0 0 (fun _ => False) := by
  refine st_met (d := d + 1) (by decide +kernel) (by show (lg_sl [Value.int x, .int y]).length ≤ 2; simp [lg_sl, Value.category]) fun p e R s m args below meth c ls hx hb hr hlk hts hown hml r1 r2 hF hlv => ?_
  have hS : va_S (fun q => s.heap.size ≤ q) s.heap s.heap [] := va_S.rf
  have e0 := lv_at hlv 0 (i := 0) (v := .int x) rfl
  have e1 := lv_at hlv 1 (i := 1) (v := .int y) rfl
  have fin : ∀ v : Value, v.category = 1 → W p l e R s m args below meth c s.heap [] 0 0 (MQ below (st_Qc none) args s 0 0 (fun _ => False)) (F0 m 5 ls [v, .int y, .int x]) := fun v hv => by
    refine st_call (va_runS (As := [.int x, .int y, v]) ⟨hx, hb, hml, hown, hts⟩ (st_pre_met (d := d) hv h0 hxy) ⟨st_callB hts r1 r2 st_pre_l st_pre_c st_pre_i st_pre_d (by decide), hts _ st_pre_z⟩ ⟨st_Pc.blind, fun U hU hW => ⟨rfl, hF.into hS hW hU (fun q hq => by rw [hU] at hq; exact hq)⟩⟩ rfl rfl hlv.1 rfl (by show 2 * 0 + 0 ≤ 8; decide) (show decode prog_15_method_155_code 5 = .ok (.invokestatic 1059, 3) by decide +kernel) ⟨Nat.zero_le _, Nat.zero_le _⟩) ?_
    refine lv_pop hx hb (by decide +kernel) rfl ?_
    exact W.vret hx hb hr (fun t ht _ => ⟨rfl, ht⟩) (fun q hq => by cases hq) (by decide +kernel)
  refine lv_iload_n (i := 0) hx hb (k := 0) (by decide +kernel) rfl e0 (lv_iload_n (i := 1) hx hb (k := 1) (by decide +kernel) rfl e1 ?_)
  rcases hF.2.1 with hz | ⟨t, hz⟩
  · exact va_gets hx hb hz hS hown (hts _ st_fmt_f) (fun _ h => h) (by decide +kernel) (fin _ rfl)
  · exact va_gets hx hb hz hS hown (hts _ st_fmt_f) (fun _ h => h) (by decide +kernel) (fin _ rfl)
/-- a text's letter -/
def st_ch (i j : Nat) : Int32 := (e2_sbyt.getD i []).getD j 0
theorem st_ch_ok : ∀ i, i < 2 → ∀ j, j < e2_slen.getD i 0 → (((st_ch i j &&& 255).toUInt32 % 65536).toInt32 = st_ch i j) ∧ ¬ ev_i j < 0 ∧ ev_i j < Int32.ofNat (e2_slen.getD i 0) ∧ 2147483648 + 32 ≤ ev_key (st_ch i j) ∧ ev_key (st_ch i j) ≤ 2147483648 + 122 := by decide +kernel
theorem st_lch_met {l : Launch} {d i j : Nat} {adK adV : Nat → Nat} (hi : i < 2) (hj : j < e2_slen.getD i 0) : Met l st_lch.1 (ev_ws st_lch) (ev_rm (d + 3) 0 0) (st_Pc adK adV [.ref (adV i), .int (ev_i j)]) (st_Qc (some (.int (st_ch i j)))) 0 0 (fun _ => False) := by
  obtain ⟨c1, c2, c3, c4, c5⟩ := st_ch_ok i hi j hj
  have hj9 : j < 65536 := by have : ∀ i, i < 2 → e2_slen.getD i 0 < 65536 := by decide +kernel
                             have := this i hi; omega
  refine st_met (d := d + 2) (by decide +kernel) (by show (lg_sl [Value.ref (adV i), .int (ev_i j)]).length ≤ 2; simp [lg_sl, Value.category]) fun p e R s m args below meth c ls hx hb hr hlk hts hown hml r1 r2 hF hlv => ?_
  have hS : va_S (fun q => s.heap.size ≤ q) s.heap s.heap [] := va_S.rf
  have e0 := lv_at hlv 0 (i := 0) (v := .ref (adV i)) rfl
  have e1 := lv_at hlv 1 (i := 1) (v := .int (ev_i j)) rfl
  refine lv_iload_n (i := 1) hx hb (k := 1) (by decide +kernel) rfl e1 (lv_aload_n (i := 0) hx hb (k := 0) (by decide +kernel) rfl e0 (va_tlen hx hb (hF.2.2.1 i hi).2.2.2 hS rfl (by decide +kernel) ?_))
  refine st_call (va_runS (As := [.int (ev_i j), .int (Int32.ofNat (e2_slen.getD i 0))]) ⟨hx, hb, hml, hown, hts⟩ (st_chk_met (d := d) c2 c3) ⟨st_callB hts r1 r2 st_chk_l st_chk_c st_chk_i st_chk_d (by decide), hts _ st_chk_z⟩ ⟨st_Pc.blind, fun U hU hW => ⟨rfl, hF.into hS hW hU (fun q hq => by rw [hU] at hq; exact hq)⟩⟩ rfl rfl hlv.1 rfl (by show 2 * 0 + 0 ≤ 8; decide) (show decode prog_16_method_2_code 3 = .ok (.invokestatic 9, 3) by decide +kernel) ⟨Nat.zero_le _, Nat.zero_le _⟩) ?_
  refine lv_aload_n (i := 0) hx hb (k := 0) (by decide +kernel) rfl e0 (lv_iload_n (i := 1) hx hb (k := 1) (by decide +kernel) rfl e1 (va_tb hx hb (hF.2.2.1 i hi).2.2.2 hS (ev_in hj9 hj) (v := .int (st_ch i j)) (by rw [ev_cl hj9]; rfl) (by decide +kernel) ?_))
  refine lv_sipush hx hb (n := 255) (by decide +kernel) rfl (lv_iand hx hb (by decide +kernel) (lv_i2c hx hb (by decide +kernel) c1 ?_))
  refine W.zret hx hb hr ?_ (fun t ht _ => ⟨rfl, ht⟩) (fun q hq => by cases hq) (by decide +kernel)
  have : ∀ i, i < 2 → ∀ j, j < e2_slen.getD i 0 → narrow .char (.int (st_ch i j)) = .int (st_ch i j) := by decide +kernel
  exact this i hi j hj
theorem st_cha_met {l : Launch} {d i j : Nat} {adK adV : Nat → Nat} (hi : i < 2) (hj : j < e2_slen.getD i 0) : Met l st_cha.1 (ev_ws st_cha) (ev_rm (d + 4) 0 0) (st_Pc adK adV [.ref (adK i), .int (ev_i j)]) (st_Qc (some (.int (st_ch i j)))) 0 0 (fun _ => False) := by
  refine st_met (d := d + 3) (by decide +kernel) (by show (lg_sl [Value.ref (adK i), .int (ev_i j)]).length ≤ 2; simp [lg_sl, Value.category]) fun p e R s m args below meth c ls hx hb hr hlk hts hown hml r1 r2 hF hlv => ?_
  have hS : va_S (fun q => s.heap.size ≤ q) s.heap s.heap [] := va_S.rf
  have e0 := lv_at hlv 0 (i := 0) (v := .ref (adK i)) rfl
  have e1 := lv_at hlv 1 (i := 1) (v := .int (ev_i j)) rfl
  refine lv_aload_n (i := 0) hx hb (k := 0) (by decide +kernel) rfl e0 ?_
  refine st_call (va_runV (As := []) ⟨hx, hb, hml, hown, hts⟩ (st_lat_met (d := d + 2) hi) ⟨st_callB hts r1 r2 st_lat_l st_lat_c st_lat_i st_lat_d (by decide), hts _ st_lat_n, hts _ st_lat_s⟩ ⟨st_Pc.blind, vk_recv hF.2.2 hi hS, fun U hU hW => ⟨rfl, hF.into hS hW hU (fun q hq => by rw [hU] at hq; exact hq)⟩⟩ rfl rfl hlv.1 rfl (by show 2 * 0 + 0 ≤ 8; decide) (show decode prog_15_method_56_code 1 = .ok (.invokevirtual 492, 3) by decide +kernel) ⟨Nat.zero_le _, Nat.zero_le _⟩) ?_
  refine lv_if_eq hx hb (off := 12) (tgt := 16) (by decide +kernel) rfl (fun z => absurd z (by decide)) (fun _ => ?_)
  refine lv_aload_n (i := 0) hx hb (k := 0) (by decide +kernel) rfl e0 (vk_getf hx hb (hF.2.2.1 i hi).2.2.1 hS hown (hts _ st_val_f) (fun _ h => h) (by decide +kernel) (lv_iload_n (i := 1) hx hb (k := 1) (by decide +kernel) rfl e1 ?_))
  refine st_call (va_runS (As := [.ref (adV i), .int (ev_i j)]) ⟨hx, hb, hml, hown, hts⟩ (st_lch_met (d := d) hi hj) ⟨st_callB hts r1 r2 st_lch_l st_lch_c st_lch_i st_lch_d (by decide), hts _ st_lch_z⟩ ⟨st_Pc.blind, fun U hU hW => ⟨rfl, hF.into hS hW hU (fun q hq => by rw [hU] at hq; exact hq)⟩⟩ rfl rfl hlv.1 rfl (by show 2 * 0 + 0 ≤ 8; decide) (show decode prog_15_method_56_code 12 = .ok (.invokestatic 495, 3) by decide +kernel) ⟨Nat.zero_le _, Nat.zero_le _⟩) ?_
  refine W.zret hx hb hr ?_ (fun t ht _ => ⟨rfl, ht⟩) (fun q hq => by cases hq) (by decide +kernel)
  have : ∀ i, i < 2 → ∀ j, j < e2_slen.getD i 0 → narrow .char (.int (st_ch i j)) = .int (st_ch i j) := by decide +kernel
  exact this i hi j hj

