/-! A CALL in a walk by hand of a method's body -/
section EvActCall
variable {l : Launch} {M : ev_M} {d ns nc : Nat} {v' : ev_V} {h' : ev_H} {p : Program} {e : Env} {s : State} {m : MethodId} {args : Array Value} {below : List Frame} {meth : Method} {c : Code} {D : va_G} {cA : ev_cA} {ads : List Nat} {A : Nat → Prop} {Q : State → Prop}
theorem ev_act_call (ha : ev_act l M d ns nc v' h' p e s m args below meth c D cA ads A Q) {pc idx k n ci : Nat} {ini : Bool} {ret : Option FieldType} {ws0 : List Nat} (hok : ev_ok1 ev_MT M.1.cls ini ret pc (.invokevirtual idx) 3 k n 0 ci ws0 = true) (hdg : decode M.2.1 pc = .ok (.invokevirtual idx, 3)) {as : List ev_V} {a0 : Nat} {h h1 : ev_H} {v : ev_V} (hres : ∀ M', ev_MT[k]? = some M' → ev_Met l M' d ((2, a0, 0) :: as) ns nc h (v, ns, nc, h1)) (ha0 : a0 < nc) (hci : (ev_hg h a0).1 = ci)
    {ads1 : List Nat} {ws : va_W} {H : Heap} {locs : List Loc} {ls : Array Slot} {rest As : List Value} {bq : Nat} (hp : ∃ x, ads1 = ads ++ x) (hwo : ev_wo D cA A ads1 ws nc h H) (hS : va_S A s.heap H locs) (hAs : ev_relS ads1 as As) (hbq : ads1[a0]? = some bq) (hn : As.length = n) (hls : ls.size = M.2.2.1) (hsum : rest.length ≤ 4)
    (kk : ∀ (ads2 : List Nat) (ws2 : va_W) (H2 : Heap) (locs2 : List Loc) (w : Option Value), (∃ x, ads2 = ads1 ++ x) → (∃ x, ads2 = ads ++ x) → ev_wo D cA A ads2 ws2 nc h1 H2 → va_S A s.heap H2 locs2 → ev_ret ads2 v w → W p l e (ev_rm (d + 1) 0 0) s m args below meth c H2 locs2 0 0 Q (F0 m (pc + 3) ls (w.toList ++ rest))) : W p l e (ev_rm (d + 1) 0 0) s m args below meth c H locs 0 0 Q (F0 m pc ls (As.reverse ++ .ref bq :: rest)) := by
  have hcx := ha.1 (0, 0, 0) h
  obtain ⟨hx, hb, htw, hown, hK, hA, hml, r1, r2, -, -, hNw⟩ := id hcx
  simp only [ev_ok1, Bool.and_eq_true, Bool.or_eq_true, decide_eq_true_eq] at hok
  obtain ⟨-, hok⟩ := hok
  obtain ⟨M', o1, o2, o3, o4, o5, o6, o7, o8⟩ := ev_nop_ok (hok.resolve_left (by decide))
  simp only [Bool.and_eq_true, decide_eq_true_eq] at o2
  obtain ⟨o2, o9, o10, o11⟩ := o2
  cases hq : en_classes[ci]? with
  | none => rw [hq] at o11; cases o11
  | some q =>
    obtain ⟨C, T, N⟩ := q
    rw [hq] at o11
    have hC : C = M'.1.cls := Option.some.inj o11
    subst hC
    obtain ⟨m1, m2, hmet⟩ := hres M' o1
    obtain ⟨en, e2, e3⟩ := hwo.cell ha0 hbq
    obtain ⟨fs, rfl, -, -⟩ := e3.obj (by omega)
    rw [hci] at e2
    have hM := hmet D cA ads1 ws (.ref bq :: As) H.size ⟨ev_rel.at 0 hbq, hAs⟩
    have hAA : ∀ x, va_A ws H.size x → A x := by
      intro x hx
      rcases hx with ⟨k', en, hk⟩ | hx
      · exact hwo.2.2.2.2.2.2 k' _ hk
      · exact hA x (Nat.le_trans hS.1 hx)
    have cw : CallW (ev_rm (d + 1) 0 0) s args M.1.cls M'.1.cls idx M'.1 M'.2.1 M'.2.2.1 M'.2.2.2 (ev_ws M') (ev_rm d (nc - nc) (ns - ns)) (nc - nc) (ns - ns) n :=
      ⟨ev_callB hcx (o4 (by decide)) o5 o6 o7 o8, htw _ (ev_w_in o2), htw _ (ev_w_in o9)⟩
    have hrun := va_runV (e := e) (below := below) (meth := meth) (locs := locs) (g := F0 m pc ls (As.reverse ++ .ref bq :: rest)) (cells := 0) (slots := 0) ⟨hx, hb, hml, hown, htw⟩ hM cw ⟨ev_Pc.blind, va_recv hK hwo.2.2.2.2.1 hq e2, fun U hU hW => ⟨rfl, by rw [hU], by rw [hU]; exact hwo.any (fun _ _ _ _ => trivial), va_K.moved hW.alike hK, hNw.warm hW⟩⟩ rfl hn hls rfl (by show 2 * 0 + _ ≤ 8; have := ev_sum8 hsum; omega) hdg ⟨by show 0 + (nc - nc) ≤ 0; omega, by show 0 + (ns - ns) ≤ 0; omega⟩
    refine ev_call hrun (A1 := va_A ws H.size) (fun st oc t hq => hq.2) hS hAA hAA ?_
    intro v st t locs1 hqa hvm hS1
    obtain ⟨⟨ads', ws', v', hv, hpre, hwo', hret⟩, -⟩ := hqa
    cases hv
    have hp2 : ∃ x, ads' = ads ++ x := by
      obtain ⟨x, rfl⟩ := hp
      obtain ⟨y, rfl⟩ := hpre
      exact ⟨x ++ y, by rw [List.append_assoc]⟩
    have := kk ads' ws' _ locs1 v hpre hp2 (hwo'.any (fun k x _ hx => hAA _ hx)) hS1 hret
    rw [Nat.sub_self, Nat.sub_self]
    exact this
end EvActCall
