/-! THE CLAIM OUT OF ONE WALK OF THE LAW'S BODY. Your part is whole_start (and what it stands on); all else here is the same for every law, but numbers. -/
def R_law : String := "MeadowSignsLaw"
def lw_P (b : Addr) (xs : List Int32) (args : Array Value) (s : State) : Prop := args = #[.ref b] ∧ s.IntsAt b xs ∧ xs.length ≤ 3072 ∧ (Jvm.Cond.and given_1 narrow_1).before args s = true
def lw_fQ (_ : Array Value) (s : State) (o : Outcome) (t : State) : Prop := o = .returned (some (.int 1)) ∧ Framed s o t [] 600000 7302250
def lw_Z (below : List Frame) (a : Array Value) (s : State) : State → Prop := fun t => ∃ o, t.status = .running ∧ Ended t below o ∧ lw_fQ a s o t
/-- the law's own end, with 1 on the stack, nothing written that was there before, its room as the claim has it -/
theorem lw_ret {p : Program} {l : Launch} {e : Env} {s : State} {m : MethodId} {below : List Frame} {meth : Method} {c : Code} {b : Nat} (hx : p.tables.exec = Jvm.exec) (hb : c.code = code) (hr : meth.sig.returnType = ret) (hlocks : meth.locks = false) {pc : Nat} {H : Heap} {ls : Array Slot} (hdg : decode code pc = .ok (.ireturn, 1)) : W p l e room_1 s m #[Value.ref b] below meth c H [] 600000 7302250 (lw_Z below #[Value.ref b] s) (F0 m pc ls [.int 1]) := by
  intro T hT X
  obtain ⟨fs, hret, hrun, hended, hW, hframe⟩ := X.leave (v := some (.int 1)) (hlocks := hlocks) (fun h => by rw [hr] at h; cases h)
  have hmeth' : T.vm.method? m = some meth := X.method'
  refine ⟨T.setFrames fs, ?_, .returned (some (.int 1)), hrun, hended, rfl, ⟨_, rfl⟩, hW, hframe⟩
  jvm_step X.here [X.here.top, hx, hb, hdg, hmeth', hr, ret, narrow_b1]
  (try refine ⟨rfl, ?_⟩); (try refine ⟨rfl, ?_⟩)
  first | (intro acts; rw [hret _ acts rfl rfl rfl]) | rw [hret _ _ rfl rfl rfl]
  exact Steps.refl _
/-- what holds at the law's entry: the machine, the code, the tables' words (any of lw_tbl by 'hts w (by decide +kernel)'), the script of L ints xs at the cell b, what the Statement gives of the start (any of its parts by flat_of_before) -/
def lw_At (p : Program) (s : State) (m : MethodId) (meth : Method) (c : Code) (b L : Nat) (xs : Nat → Int32) : Prop :=
  p.tables.exec = Jvm.exec ∧ c.code = code ∧ meth.sig.returnType = ret ∧ c.maxLocals = 4 ∧ s.vm.findClass R_law = some m.cls ∧ (∀ w ∈ lw_tbl, w.before #[Value.ref b] s = true) ∧ va_X b L xs s s.heap ∧ b < s.heap.size ∧ meth.locks = false ∧ (Jvm.Cond.and given_1 narrow_1).before #[Value.ref b] s = true
/-- what is fixed in the law's walk -/
def lw_cx (p : Program) (s : State) (m : MethodId) (c : Code) (b L : Nat) (xs : Nat → Int32) (D : va_G) (cA : e2_cA) : Prop :=
  p.tables.exec = Jvm.exec ∧ c.code = code ∧ c.maxLocals = 4 ∧ s.vm.findClass R_law = some m.cls ∧ (∀ w ∈ lw_tbl, w.before #[Value.ref b] s = true) ∧ va_X b L xs s s.heap ∧ b < s.heap.size ∧ va_K D en_classes (e2_tys cA) s ∧ en_N s ∧ e2_St (fun q => s.heap.size ≤ q) s s.heap
section Law
variable {p : Program} {l : Launch} {e : Env} {s : State} {m : MethodId} {below : List Frame} {meth : Method} {c : Code} {b L : Nat} {xs : Nat → Int32} {D : va_G} {cA : e2_cA} {Q : State → Prop}
/-- an int of the script: place i and k -/
theorem lw_arg (hcx : lw_cx p s m c b L xs D cA) {H : Heap} {locs : List Loc} {cells slots : Nat} (hS : va_S (fun q => s.heap.size ≤ q) s.heap H locs) {ls : Array Slot} {i : Nat} (h0 : ls[0]? = some (.val (.ref b))) (h3 : ls[3]? = some (.val (.int (ev_i i)))) {pc k : Nat} {rest : List Value} (hk6 : k < 6) (hik : i + k < L) (hL : L ≤ 3072) (d0 : decode code pc = .ok (.aload_n 0, 1)) (d1 : decode code (pc + 1) = .ok (.iload_n 3, 1)) (d2 : decode code (pc + 2) = .ok (.iconst (k : Int), 1)) (d3 : decode code (pc + 3) = .ok (.iadd, 1)) (d4 : decode code (pc + 4) = .ok (.iaload, 1))
    (kk : W p l e room_1 s m #[Value.ref b] below meth c H locs cells slots Q (F0 m (pc + 5) ls (.int (xs (i + k)) :: rest))) : W p l e room_1 s m #[Value.ref b] below meth c H locs cells slots Q (F0 m pc ls rest) := by
  obtain ⟨hx, hb, -, -, -, hX, hbl, -, -, -⟩ := hcx
  have e1 : ev_i i + Int32.ofInt (k : Int) = ev_i (i + k) := by
    apply Int32.toBitVec_inj.mp
    apply BitVec.eq_of_toNat_eq
    rw [Int32.toBitVec_add, BitVec.toNat_add]
    have e2 : (ev_i i).toBitVec.toNat = i % 4294967296 := rfl
    have e3 : (ev_i (i + k)).toBitVec.toNat = (i + k) % 4294967296 := rfl
    have e4 : (Int32.ofInt (k : Int)).toBitVec.toNat = k := by
      match k, hk6 with
      | 0, _ => rfl
      | 1, _ => rfl
      | 2, _ => rfl
      | 3, _ => rfl
      | 4, _ => rfl
      | 5, _ => rfl
      | k + 6, h => omega
    rw [e2, e3, e4]
    omega
  have hin : vp_in (ev_i (i + k)) L := ev_in (show i + k < 65536 by omega) hik
  refine lv_aload_n hx hb d0 rfl h0 ?_
  refine lv_iload_n hx hb d1 rfl h3 ?_
  refine lv_iconst (v := Int32.ofInt (k : Int)) hx hb d2 rfl ?_
  refine lv_iadd hx hb d3 ?_
  rw [e1]
  refine va_sld hx hb hX hbl (Nat.not_le.mpr hbl) hS hin d4 ?_
  rw [show (ev_i (i + k)).toNatClampNeg = i + k from ev_cl (show i + k < 65536 by omega)]
  exact kk
/-- a call of the law's, by a contract -/
theorem lw_call (hcx : lw_cx p s m c b L xs D cA) {pc idx k n ci : Nat} {ws0 : List Nat} (hok : ev_ok1 e2_MT R_law false none pc (.invokevirtual idx) 3 k n 0 ci ws0 = true) (hdg : decode code pc = .ok (.invokevirtual idx, 3)) {as : List ev_V} {a0 d : Nat} {E : e2_E} {h : ev_H} {F : e2_F} (hd : d ≤ 1000) (hres : ∀ M, e2_MT[k]? = some M → e2_Met l M d ((2, a0, 0) :: as) E h F) (ha0 : a0 < 133) (hci : (ev_hg h a0).1 = ci) (hc50 : ci < 50)
    {ads r : List Nat} {ws : va_W} {H : Heap} {locs : List Loc} {ls : Array Slot} {rest As : List Value} {bq cells slots : Nat} (hs : e2_sat r E) (hwo : e2_wo D cA (fun q => s.heap.size ≤ q) ads r ws h H) (hS : va_S (fun q => s.heap.size ≤ q) s.heap H locs) (hAs : e2_relS ads r as As) (hbq : ads[a0]? = some bq) (hn : As.length = n) (hls : ls.size = 4) (hsum : rest.length ≤ 4) (hr1 : cells ≤ 600000) (hr2 : slots ≤ 7302250)
    (kk : ∀ (r' : List Nat) (ws' : va_W) (E' : e2_E) (h' : ev_H) (v : ev_V) (H1 : Heap) (locs1 : List Loc) (w : Option Value), (∃ x, r' = r ++ x) → F v E' h' = true → e2_sat r' E' → e2_wo D cA (fun q => s.heap.size ≤ q) ads r' ws' h' H1 → va_S (fun q => s.heap.size ≤ q) s.heap H1 locs1 → e2_ret ads r' v w → W p l e room_1 s m #[Value.ref b] below meth c H1 locs1 cells slots Q (F0 m (pc + 3) ls (w.toList ++ rest))) : W p l e room_1 s m #[Value.ref b] below meth c H locs cells slots Q (F0 m pc ls (As.reverse ++ .ref bq :: rest)) := by
  obtain ⟨hx, hb, hml, hown, hts, hX, hbl, hK, hNw, hSt⟩ := hcx
  have htw : ∀ w ∈ en_WS, w.before #[Value.ref b] s = true := fun w hw => hts w (List.mem_filter.mp hw).1
  simp only [ev_ok1, Bool.and_eq_true, Bool.or_eq_true, decide_eq_true_eq] at hok
  obtain ⟨-, hok⟩ := hok
  obtain ⟨M, o1, o2, o3, o4, o5, o6, o7, o8⟩ := ev_nop_ok (hok.resolve_left (by decide))
  simp only [Bool.and_eq_true, decide_eq_true_eq] at o2
  obtain ⟨o2, o9, o10, o11⟩ := o2
  cases hq : en_classes[ci]? with
  | none => rw [hq] at o11; cases o11
  | some q =>
    obtain ⟨C, T, N⟩ := q
    rw [hq] at o11
    have hC : C = M.1.cls := Option.some.inj o11
    subst hC
    have hmet := hres M o1
    obtain ⟨en, e2, e3⟩ := hwo.cell ha0 hbq
    obtain ⟨fs, rfl, -, -⟩ := e3.obj (by omega)
    rw [hci] at e2
    have hM := hmet D cA ads r ws (.ref bq :: As) H.size hs ⟨⟨bq, hbq, rfl⟩, by show (2 : Nat) ≠ 7; decide, hAs⟩
    have hAA : ∀ x, va_A ws H.size x → s.heap.size ≤ x := by
      intro x hx
      rcases hx with ⟨k', en, hk⟩ | hx
      · exact hwo.2.2.2.2.1.2 k' _ hk
      · exact Nat.le_trans hS.1 hx
    have cw : CallW room_1 s #[Value.ref b] R_law M.1.cls idx M.1 M.2.1 M.2.2.1 M.2.2.2 (ev_ws M) (ev_rm d 0 0) 0 0 n :=
      ⟨callB_of n htw (ev_goodIn o5) rfl rfl rfl (htw _ o6) (htw _ (o4 (by decide))) o7 ⟨by show d + 1 ≤ 2048; omega, by show 8 + (M.2.2.1 + 11) + 60 * d ≤ 84000; omega⟩, htw _ (ev_w_in o2), htw _ (ev_w_in o9)⟩
    have hrun := va_runV (e := e) (below := below) (meth := meth) (locs := locs) (g := F0 m pc ls (As.reverse ++ .ref bq :: rest)) (cells := cells) (slots := slots) ⟨hx, hb, hml, hown, htw⟩ hM cw ⟨e2_Pc.blind, va_recv hK hwo.2.2.2.1 hq e2, fun U hU hW => ⟨rfl, by rw [hU], by rw [hU]; exact hwo.any (fun _ _ _ _ => trivial), va_K.moved hW.alike hK, hNw.warm hW, hSt.into hS hW hU hAA⟩⟩ rfl hn hls rfl (by show 2 * 0 + _ ≤ 8; have := ev_sum8 hsum; omega) hdg ⟨hr1, hr2⟩
    refine ev_call hrun (A1 := va_A ws H.size) (fun st oc t hq => hq.2) hS hAA hAA ?_
    intro w st t locs1 hqa hvm hS1
    obtain ⟨⟨v, E', h', r', ws', w', hF, hv, hp', hs', hwo', hret⟩, -⟩ := hqa
    cases hv
    exact kk r' ws' E' h' v _ locs1 _ hp' hF hs' (hwo'.any (fun k x _ hx => hAA _ hx)) hS1 hret
end Law
