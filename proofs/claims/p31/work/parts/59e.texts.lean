/-! METHODS WITH TEXTS: kindOfWord, readMark -/
section StG
variable {p : Program} {l : Launch} {e : Env} {R : Room} {s : State} {m : MethodId} {args : Array Value} {below : List Frame} {meth : Method} {c : Code} {Q : State → Prop} {D : va_G} {cA : e2_cA} {A : Nat → Prop} {ads r0 : List Nat} {d : Nat} {F : e2_F} {M : ev_M} {al st : List ev_V} {E : e2_E} {h : ev_H} {pc : Nat}
theorem st_slen (ha : e2_act M d F p l e R s m args below meth c Q D cA A ads r0) (hM : M.1.cls = "MeadowSigns$Tape") (hd : 2 ≤ d) {k idx : Nat} (hk : k = 0 ∧ idx = 63 ∨ k = 1 ∧ idx = 73) (h1 : decode M.2.1 pc = .ok (.ldc idx, 2)) (h2 : decode M.2.1 (pc + 2) = .ok (.invokevirtual 65, 3)) (hsm : e2_small st = true) (hg : e2_gdM M p l e R s m args below meth c Q D cA A ads r0 (pc + 5) al (sy_I (ev_i (e2_slen.getD k 0)) :: st) E h) : e2_gdM M p l e R s m args below meth c Q D cA A ads r0 pc al st E h := by
  intro r ws H locs ls vs hp hs hwo hS hfr hst
  obtain ⟨hx, hb, hts, hown, hK, hA, hml, r1, r2, hN, hZ, hq, adK, adV, hV, hR0, hR1⟩ := ha.1
  rw [hM] at hown
  obtain ⟨d, rfl⟩ : ∃ d', d = d' + 2 := ⟨d - 2, by omega⟩
  have hF : st_F adK adV A s := ⟨hZ, hq, hV⟩
  have hk2 : k < 2 := by omega
  have main : W p l e R s m args below meth c H locs 0 0 Q (F0 m (pc + 2) ls (.ref (adK k) :: vs)) := by
    refine st_call (va_runV (As := []) ⟨hx, hb, hml, hown, hts⟩ (st_len_met (d := d) hk2) ⟨st_callB hts r1 r2 st_len_l st_len_c st_len_i st_len_d (by decide), hts _ st_len_n, hts _ st_len_s⟩ ⟨st_Pc.blind, vk_recv hV hk2 hS, fun U hU hW => ⟨rfl, hF.into hS hW hU (fun q hq => hA q (Nat.le_trans hS.1 (by rw [hU] at hq; exact hq)))⟩⟩ rfl rfl hfr.2.choose_spec.1.1 rfl (by have := e2_small_ok hst hsm; show 2 * 0 + _ ≤ 8; omega) h2 ⟨Nat.zero_le _, Nat.zero_le _⟩) ?_
    exact hg r ws H locs ls (.int _ :: vs) hp hs hwo hS hfr ⟨e2_rel.ex ads r _ 0, by show (0 : Nat) ≠ 7; decide, hst⟩
  rcases hk with ⟨rfl, rfl⟩ | ⟨rfl, rfl⟩
  · exact va_ldcS hx hb hown hR0 h1 main
  · exact va_ldcS hx hb hown hR1 h1 main
theorem st_schr (ha : e2_act M d F p l e R s m args below meth c Q D cA A ads r0) (hM : M.1.cls = "MeadowSigns$Tape") (hd : 4 ≤ d) {k idx i j ln : Nat} (hk : k = 0 ∧ idx = 63 ∨ k = 1 ∧ idx = 73) (hj : j < e2_slen.getD k 0) (hi : al[i]? = some (sy_I (ev_i j))) (h1 : decode M.2.1 pc = .ok (.ldc idx, 2)) (h3 : (ln = 2 ∧ decode M.2.1 (pc + 2) = .ok (.iload i, 2)) ∨ (ln = 1 ∧ ∃ f : Fin 4, (f : Nat) = i ∧ decode M.2.1 (pc + 2) = .ok (.iload_n f, 1))) (h2 : decode M.2.1 (pc + 2 + ln) = .ok (.invokevirtual 69, 3)) (hsm : e2_small st = true) (hg : e2_gdM M p l e R s m args below meth c Q D cA A ads r0 (pc + 2 + ln + 3) al (sy_I (st_ch k j) :: st) E h) : e2_gdM M p l e R s m args below meth c Q D cA A ads r0 pc al st E h := by
  intro r ws H locs ls vs hp hs hwo hS hfr hst
  obtain ⟨hx, hb, hts, hown, hK, hA, hml, r1, r2, hN, hZ, hq, adK, adV, hV, hR0, hR1⟩ := ha.1
  rw [hM] at hown
  obtain ⟨d, rfl⟩ : ∃ d', d = d' + 4 := ⟨d - 4, by omega⟩
  have hF : st_F adK adV A s := ⟨hZ, hq, hV⟩
  have hk2 : k < 2 := by omega
  obtain ⟨w, hw, hrel, -⟩ := hfr.get hi (by show (0 : Nat) ≠ 9; decide)
  have hw2 : ls[i]? = some (.val (.int (ev_i j))) := by rw [hw, show w = .int (ev_i (ev_u (ev_i j))) from hrel, ev_iu]
  have main : W p l e R s m args below meth c H locs 0 0 Q (F0 m (pc + 2) ls (.ref (adK k) :: vs)) := by
    have call : W p l e R s m args below meth c H locs 0 0 Q (F0 m (pc + 2 + ln) ls (.int (ev_i j) :: .ref (adK k) :: vs)) := by
      refine st_call (va_runV (As := [.int (ev_i j)]) ⟨hx, hb, hml, hown, hts⟩ (st_cha_met (d := d) hk2 hj) ⟨st_callB hts r1 r2 st_cha_l st_cha_c st_cha_i st_cha_d (by decide), hts _ st_cha_n, hts _ st_cha_s⟩ ⟨st_Pc.blind, vk_recv hV hk2 hS, fun U hU hW => ⟨rfl, hF.into hS hW hU (fun q hq => hA q (Nat.le_trans hS.1 (by rw [hU] at hq; exact hq)))⟩⟩ rfl rfl hfr.2.choose_spec.1.1 rfl (by have := e2_small_ok hst hsm; show 2 * 0 + _ ≤ 8; omega) h2 ⟨Nat.zero_le _, Nat.zero_le _⟩) ?_
      exact hg r ws H locs ls (.int _ :: vs) hp hs hwo hS hfr ⟨e2_rel.ex ads r _ 0, by show (0 : Nat) ≠ 7; decide, hst⟩
    rcases h3 with ⟨rfl, h3⟩ | ⟨rfl, f, hf, h3⟩
    · exact lv_iload hx hb h3 hw2 call
    · exact lv_iload_n (i := i) hx hb h3 hf hw2 call
  rcases hk with ⟨rfl, rfl⟩ | ⟨rfl, rfl⟩
  · exact va_ldcS hx hb hown hR0 h1 main
  · exact va_ldcS hx hb hown hR1 h1 main
/-- a long in a local made exact -/
theorem gd_exL {i : Nat} {v : ev_V} (hi : al[i]? = some v) (hv : e2_isL v.1 = true) (hg : ∀ u, u < 18446744073709551616 → e2_gdM M p l e R s m args below meth c Q D cA A ads r0 pc (al.set i (4, u, 0)) st E h) : e2_gdM M p l e R s m args below meth c Q D cA A ads r0 pc al st E h := by
  intro r ws H locs ls vs hp hs hwo hS hfr hst
  obtain ⟨f1, lv, f2, f3⟩ := hfr
  have h9 : v.1 ≠ 9 := by rcases e2_isL_cases hv with z | z | z <;> omega
  obtain ⟨h7, w, q1, q2⟩ := f3 i v hi h9
  obtain ⟨x, rfl⟩ := q2.long hv
  refine hg x.toUInt64.toNat (nm_lt x) r ws H locs ls vs hp hs hwo hS ⟨by rw [List.length_set]; exact f1, lv, f2, fun j u hj hu => ?_⟩ hst
  rw [List.getElem?_set] at hj
  by_cases hij : i = j
  · subst hij
    rw [if_pos rfl, if_pos (List.getElem?_eq_some_iff.mp hi).1] at hj
    cases hj
    refine ⟨by show (4 : Nat) ≠ 7; decide, _, q1, ?_⟩
    show Value.long x = .long (Int64.ofNat x.toUInt64.toNat)
    rw [ex_long]
  · rw [if_neg hij] at hj
    exact f3 j u hj hu
end StG
section SymT
variable {call : e2_Call} {F : e2_F} {X : List e2_X} {G : sy_P} {al al' st r : List ev_V} {E : e2_E} {h : ev_H} {pc q t : Nat}
theorem sy_pushV (hG : sy_St call F X G) {v : ev_V} (ha : sy_at X pc (o2_push v) q) (hg : G q al (v :: st) E h) : G pc al st E h := sy_go hG ha (sy_K_i hg)
theorem sy_lstore (hG : sy_St call F X G) {i : Nat} {v : ev_V} (ha : sy_at X pc (o2_lstore i) q) (hv : e2_isL v.1 = true) (hn : e2_nl al i true = true) (hi : i + 1 < al.length) (hl : (al.set i v).set (i + 1) (9, 0, 0) = al') (hg : G q al' r E h) : G pc al (v :: r) E h := by
  refine sy_go hG ha ?_
  show e2_if (e2_isL v.1) (e2_nl al i (e2_setK al i v fun al' => e2_setK al' (Nat.succ i) (9, 0, 0) fun al'' => sy_K (G q al'' r E h))) = true
  rw [sy_if_t hv, sy_nl hn, sy_set (by omega), sy_set (by rw [List.length_set]; exact hi), hl]
  exact sy_K_i hg
theorem sy_l2 (hG : sy_St call F X G) {v w : ev_V} (ha : sy_at X pc o2_l2 q) (hv : e2_isL v.1 = true) (hw : e2_isL w.1 = true) (hg : G q al ((5, 0, 0) :: r) E h) : G pc al (v :: w :: r) E h := by
  refine sy_go hG ha ?_
  show e2_if (e2_isL w.1) (e2_if (e2_isL v.1) (sy_K (G q al ((5, 0, 0) :: r) E h))) = true
  rw [sy_if_t hw, sy_if_t hv]
  exact sy_K_i hg
theorem sy_i2l (hG : sy_St call F X G) {x : Int32} (ha : sy_at X pc o2_i2l q) (hg : G q al ((5, 0, 0) :: r) E h) : G pc al (sy_I x :: r) E h := sy_go hG ha (sy_K_i hg)
theorem sy_bald (hG : sy_St call F X G) {a b n i : Nat} {f : Nat → Int32} {x : Int32} (ha : sy_at X pc (o2_ald 51 52) q) (h133 : a < 133) (hc : ev_hg h a = (51, sy_R n f)) (hn : n ≤ 65536) (hi : i < n) (hx : x = ev_i i) (hg : G q al (sy_I (f i) :: r) E h) : G pc al (sy_I x :: (2, a, b) :: r) E h := by
  refine sy_go hG ha ?_
  unfold o2_ald
  rw [sy_el_f (show Nat.beq 51 50 = false from rfl)]
  unfold o2_ald0
  rw [sy_2c, sy_cell h133 hc, sy_ix (by omega) hx, sy_el_t (show (Nat.ble 51 51 && Nat.ble 51 52) = true from rfl), sy_el_t (Nat.beq_refl _), sy_get (sy_R_get hi)]
  exact sy_K_i hg
end SymT
/-- a summary out of a walk of the activation itself -/
theorem sy_smOkG {l : Launch} {k nL D : Nat} {C : List ev_I} {M : ev_M} {as : List ev_V} {E : e2_E} {f : ev_H} {res : e2_Rs} (hm : e2_mOk k nL C) (hM : e2_MT[k]? = some M) (hlen : (e2_exp as).length ≤ nL) (hok : e2_okSB E.length as f res = true) (hres : e2_allR res (fun q => e2_fin res q.1 E q.2) = true)
    (hg : ∀ (d : Nat), D ≤ d → ∀ (Dg : va_G) (cA : e2_cA) (A : Nat → Prop) (ads r : List Nat) (ws : va_W) (H : Heap) (ls : Array Slot), e2_sat r E → e2_wo Dg cA A ads r ws f H → e2_fr ads r nL (e2_al nL as) ls → ∃ (alx : List ev_V) (hx : ev_H) (F' : e2_F), e2_fr ads r nL alx ls ∧ e2_wo Dg cA A ads r ws hx H ∧ (∀ (p : Program) (e : Env) (R : Room) (s : State) (m : MethodId) (args : Array Value) (below : List Frame) (meth : Method) (c : Code) (Q : State → Prop), (∀ S, e2_okL e2_MT M.1.cls (M.1.name == "<init>") M.2.2.2 M.2.1 (e2_mark S C)) → e2_act M d F' p l e R s m args below meth c Q Dg cA A ads r → e2_gdM M p l e R s m args below meth c Q Dg cA A ads r 0 alx [] E hx) ∧
      ∀ v E' h' r' ws' H', F' v E' h' = true → (∃ x, r' = r ++ x) → e2_wo Dg cA A ads r' ws' h' H' → ∃ q ∈ res, e2_wo Dg cA A ads r' ws' q.2 H' ∧ (v = (9, 0, 0) → q.1 = (9, 0, 0)) ∧ (v.1 ≠ 9 → q.1.1 ≠ 9 ∧ q.1.1 ≠ 7) ∧ ∀ w, e2_rel ads r' v w → e2_rel ads r' q.1 w) : e2_smOk l (D + 1) (k, as, E, f, res) := by
  have hok2 := e2_okSB_ok hok
  refine ⟨hok2, fun M2 hM2 d hd => ?_⟩
  obtain ⟨M', hM', hn, hpl, hC⟩ := hm
  have hM2 : e2_MT[k]? = some M2 := hM2
  rw [hM] at hM' hM2
  cases hM'
  cases hM2
  cases d with
  | zero => omega
  | succ d =>
    refine e2_Met_ofG hpl (by rw [hn]; exact hlen) fun p e R s m args below meth c Q Dg cA A ads r0 ha => ?_
    rw [hn]
    intro r ws H locs ls vs hp hs hwo hS hfr hst
    rw [hn] at hfr
    obtain ⟨alx, hx, F', g1, g2, g3, g4⟩ := hg d (by omega) Dg cA A ads r ws H ls hs hwo hfr
    have ha2 : e2_act M d F' p l e R s m args below meth c Q Dg cA A ads r := by
      refine ha.conv fun v E' h' r' ws' H' hF' hp' hs' hwo' => ?_
      obtain ⟨q, q1, q2, q3, q4, q5⟩ := g4 v E' h' r' ws' H' hF' hp' hwo'
      obtain ⟨o1, -, o3, -, o5⟩ := hok2.1
      obtain ⟨i1, i2, -⟩ := o5 q q1
      have htk : r'.take E.length = r := by
        obtain ⟨x, rfl⟩ := hp'
        rw [← hs.1]
        simp
      refine ⟨q.1, E, q.2, r, e2_allR_ok hres q q1, hp, hs, ?_, q3, q4, fun w hw => ?_⟩
      · have := q2.take i2
        rw [htk] at this
        exact this
      · have := e2_idv_ok i1 (q5 w hw)
        rw [htk] at this
        exact this
    exact g3 p e R s m args below meth c Q hC ha2 r ws H locs ls vs ⟨[], by simp⟩ hs g2 hS (by rw [hn]; exact g1) hst
/-- a tape's object, as it is known -/
def tx_o (lo hi : Nat) : List ev_V := [(11, 2147483648, 2147485248), (2, 35, 0), (11, lo, hi), (11, 2147483520, 2147483775), (11, 2147483648, 2147485248), (11, 0, 4294967295), (5, 0, 0), (11, 2147482048, 2147485248)]
/-- exact -/
def tx_x (n k pl nu wl le : Int32) (w : Nat) : List ev_V := [sy_I le, (2, 35, 0), sy_I n, sy_I k, sy_I pl, sy_I nu, (4, w, 0), sy_I wl]
theorem tx_ex {D : va_G} {cA : e2_cA} {A : Nat → Prop} {ads r : List Nat} {ws : va_W} {f : ev_H} {H : Heap} {lo hi : Nat} (hw : e2_wo D cA A ads r ws f H) (hc : ev_hg f 34 = (7, tx_o lo hi)) : ∃ (n k pl nu wl le : Int32) (w : Nat), w < 18446744073709551616 ∧ ((lo ≤ ev_key n ∧ ev_key n ≤ hi) ∧ (2147483648 ≤ ev_key le ∧ ev_key le ≤ 2147485248) ∧ (2147483520 ≤ ev_key k ∧ ev_key k ≤ 2147483775) ∧ (2147483648 ≤ ev_key pl ∧ ev_key pl ≤ 2147485248) ∧ (2147482048 ≤ ev_key wl ∧ ev_key wl ≤ 2147485248)) ∧ ev_hg (ex_all ws f) 34 = (7, tx_x n k pl nu wl le w) := by
  obtain ⟨vs, l1, l2, l3⟩ := ex_obj hw (k := 34) (by omega) (by omega) hc
  match vs, l1, l2, l3 with
  | [w0, w1, w2, w3, w4, w5, w6, w7], l1, l2, l3 =>
    obtain ⟨u0, e0, q0⟩ := l2 0 _ rfl
    cases (Option.some.inj e0 : w0 = u0)
    obtain ⟨u1, e1, q1⟩ := l2 1 _ rfl
    cases (Option.some.inj e1 : w1 = u1)
    obtain ⟨u2, e2, q2⟩ := l2 2 _ rfl
    cases (Option.some.inj e2 : w2 = u2)
    obtain ⟨u3, e3, q3⟩ := l2 3 _ rfl
    cases (Option.some.inj e3 : w3 = u3)
    obtain ⟨u4, e4, q4⟩ := l2 4 _ rfl
    cases (Option.some.inj e4 : w4 = u4)
    obtain ⟨u5, e5, q5⟩ := l2 5 _ rfl
    cases (Option.some.inj e5 : w5 = u5)
    obtain ⟨u6, e6, q6⟩ := l2 6 _ rfl
    cases (Option.some.inj e6 : w6 = u6)
    obtain ⟨u7, e7, q7⟩ := l2 7 _ rfl
    cases (Option.some.inj e7 : w7 = u7)
    obtain ⟨le, rfl, b0, b0'⟩ := hd_11 q0
    obtain ⟨n, rfl, n1, n2⟩ := hd_11 q2
    obtain ⟨k, rfl, b3, b3'⟩ := hd_11 q3
    obtain ⟨pl, rfl, b4, b4'⟩ := hd_11 q4
    obtain ⟨nu, rfl, -, -⟩ := hd_11 q5
    obtain ⟨x, rfl⟩ := q6.long rfl
    obtain ⟨wl, rfl, b7, b7'⟩ := hd_11 q7
    refine ⟨n, k, pl, nu, wl, le, x.toUInt64.toNat, nm_lt x, ⟨⟨n1, n2⟩, ⟨b0, b0'⟩, ⟨b3, b3'⟩, ⟨b4, b4'⟩, b7, b7'⟩, ?_⟩
    rw [l3]
    show ((7, [sy_I le, ex_v _ w1, sy_I n, sy_I k, sy_I pl, sy_I nu, (4, x.toUInt64.toNat, 0), sy_I wl]) : ev_C) = _
    rw [hd_ref q1]
    rfl
theorem st_ch_32 {i j : Nat} (hi : i < 2) (hj : j < e2_slen.getD i 0) : 2147483680 ≤ ev_key (st_ch i j) ∧ ev_key (st_ch i j) ≤ 2147483770 := (st_ch_ok i hi j hj).2.2.2
set_option maxHeartbeats 4000000 in
theorem hd_kind (hen : en_ok) {l : Launch} {E : e2_E} {f : ev_H} (hc : ev_hg f 34 = (7, tx_o 2147483648 2147485248)) (n50 : (ev_hg f 50).1 ≠ 57) (n68 : (ev_hg f 68).1 ≠ 57)
    (hok : e2_okSB E.length [(2, 34, 0)] f [((11, 2147483520, 2147483775), f)] = true) (hres : e2_allR [((11, 2147483520, 2147483775), f)] (fun x => e2_fin [((11, 2147483520, 2147483775), f)] x.1 E x.2) = true) : e2_smOk l 5 (112, [(2, 34, 0)], E, f, [((11, 2147483520, 2147483775), f)]) := by
  refine sy_smOkG (nL := 6) (D := 4) (C := evd_112) (M := (⟨"MeadowSigns$Tape", "kindOfWord", "()I"⟩, prog_9_method_10_code, 6, some .int)) ei_112 rfl (Nat.le_of_ble_eq_true rfl) hok hres fun d hd Dg cA A ads r ws H ls hsat hwo hfr => ?_
  obtain ⟨n, k, pl, nu, wl, le, w, hw, -, hx⟩ := tx_ex hwo hc
  refine ⟨_, _, fun v E' h' => sy_K ((∃ x : Int32, v = sy_I x ∧ 2147483520 ≤ ev_key x ∧ ev_key x ≤ 2147483775) ∧ h' = ex_all ws f), hfr, ex_wo hwo, fun p e R s m args below meth c Q hC ha => ?_, fun v E' h' r' ws' H' hF' hp hw' => ?_⟩
  rotate_left
  · obtain ⟨⟨x, rfl, x1, x2⟩, rfl⟩ := sy_K_e hF'
    refine ⟨_, List.mem_cons_self, ex_back hwo hp hw' n50 n68 fun k hk => Or.inl ⟨rfl, rfl⟩, fun z => (by cases z), fun _ => ⟨by show (11 : Nat) ≠ 9; decide, by show (11 : Nat) ≠ 7; decide⟩, fun w hw => ⟨x, ?_, x1, x2⟩⟩
    rw [show w = .int (ev_i (ev_u x)) from hw, ev_iu]
  · have hG := sy_gd [] hen hC ex2_112 ha
    have d0 : ∀ E2 : e2_E, ∀ y : List ev_V, e2_gdM (⟨"MeadowSigns$Tape", "kindOfWord", "()I"⟩, prog_9_method_10_code, 6, some .int) p l e R s m args below meth c Q Dg cA A ads r 73 y [] E2 (ex_all ws f) := fun E2 y => sy_push (y := 2) hG a112_73 rfl (sy_iret hG a112_74 (Or.inl rfl) (sy_K_i ⟨⟨2, rfl, by decide +kernel, by decide +kernel⟩, rfl⟩))
    have loop : ∀ j i, i + j = 91 → ∀ (ck u : Nat) (v5 : ev_V), ck ≤ 4 + i → u < 18446744073709551616 → e2_gdM (⟨"MeadowSigns$Tape", "kindOfWord", "()I"⟩, prog_9_method_10_code, 6, some .int) p l e R s m args below meth c Q Dg cA A ads r 7 [(2, 34, 0), (4, u, 0), (9, 0, 0), sy_I (ev_i ck), sy_I (ev_i i), v5] [] E (ex_all ws f) := by
      intro j
      induction j with
      | zero =>
        intro i hij ck u v5 hck hu
        refine sy_iload hG a112_7 rfl (st_slen ha rfl (by omega) (k := 0) (idx := 63) (Or.inl ⟨rfl, rfl⟩) (by decide +kernel) (by decide +kernel) rfl ?_)
        refine sy_icmp hG a112_14 (fun _ => d0 _ _) (fun z => absurd ((sy_le (x := 91) (y := i) (by omega) (by omega)).mpr (by omega)) z)
      | succ j ih =>
        intro i hij ck u v5 hck hu
        have hi91 : i < 91 := by omega
        have next : ∀ (ck u : Nat) (v5 : ev_V), ck ≤ 4 + i + 1 → u < 18446744073709551616 → e2_gdM (⟨"MeadowSigns$Tape", "kindOfWord", "()I"⟩, prog_9_method_10_code, 6, some .int) p l e R s m args below meth c Q Dg cA A ads r 67 [(2, 34, 0), (4, u, 0), (9, 0, 0), sy_I (ev_i ck), sy_I (ev_i i), v5] [] E (ex_all ws f) := fun ck u v5 h1 h2 => by
          refine sy_iinc (y := 1) hG a112_67 rfl (x := ev_i i) rfl rfl rfl (sy_goto hG a112_70 ?_)
          rw [show ev_i i + 1 = ev_i (i + 1) from sy_add i 1]
          exact ih (i + 1) (by omega) ck u v5 (by omega) h2
        refine sy_iload hG a112_7 rfl (st_slen ha rfl (by omega) (k := 0) (idx := 63) (Or.inl ⟨rfl, rfl⟩) (by decide +kernel) (by decide +kernel) rfl ?_)
        refine sy_icmp hG a112_14 (fun _ => d0 _ _) (fun _ => ?_)
        refine st_schr ha rfl (by omega) (k := 0) (idx := 63) (i := 4) (j := i) (ln := 2) (Or.inl ⟨rfl, rfl⟩) hi91 rfl (by decide +kernel) (Or.inl ⟨rfl, by decide +kernel⟩) (by decide +kernel) rfl ?_
        refine sy_istore hG a112_24 rfl (Nat.le_of_ble_eq_true rfl) rfl (sy_iload (x := st_ch 0 i) hG a112_26 rfl (sy_push (y := 32) hG a112_28 rfl (sy_icmp hG a112_30 (fun _ => ?_) (fun _ => ?_))))
        · refine sy_lload hG a112_51 rfl (sy_aload hG a112_52 rfl (sy_getfL hG a112_53 (by omega) hx rfl (sy_lcmp hG a112_56 hu hw (fun hu => ?_) (fun hu => ?_))))
          · refine sy_ifc hG a112_57 (fun z => absurd rfl z) (fun _ => sy_iload (x := ev_i ck) hG a112_60 rfl (sy_iret hG a112_61 (Or.inl rfl) (sy_K_i ⟨⟨ev_i ck, rfl, ?_, ?_⟩, rfl⟩)))
            · rw [sy_k (by omega)]; omega
            · rw [sy_k (by omega)]; omega
          · have go : e2_gdM (⟨"MeadowSigns$Tape", "kindOfWord", "()I"⟩, prog_9_method_10_code, 6, some .int) p l e R s m args below meth c Q Dg cA A ads r 62 [(2, 34, 0), (4, u, 0), (9, 0, 0), sy_I (ev_i ck), sy_I (ev_i i), sy_I (st_ch 0 i)] [] E (ex_all ws f) := by
              refine sy_pushV hG a112_62 (sy_lstore hG a112_63 rfl rfl (Nat.le_of_ble_eq_true rfl) rfl (sy_iinc (y := 1) hG a112_64 rfl (x := ev_i ck) rfl rfl rfl ?_))
              rw [show ev_i ck + 1 = ev_i (ck + 1) from sy_add ck 1]
              exact next (ck + 1) 0 _ (by omega) (by decide)
            exact ⟨sy_ifc hG a112_57 (fun _ => go) (fun z => absurd (show ¬ ((-1 : Int32) = 0) by decide) z), sy_ifc hG a112_57 (fun _ => go) (fun z => absurd (show ¬ ((1 : Int32) = 0) by decide) z)⟩
        · refine sy_lload hG a112_33 rfl (sy_pushV hG a112_34 (sy_l2 hG a112_37 rfl rfl (sy_iload (x := st_ch 0 i) hG a112_38 rfl (sy_push (y := 97) hG a112_40 rfl (sy_bin2 hG a112_42 (sy_push (y := 1) hG a112_43 rfl (sy_bin2 hG a112_44 (sy_i2l hG a112_45 (sy_l2 hG a112_46 rfl rfl (sy_lstore hG a112_47 rfl rfl (Nat.le_of_ble_eq_true rfl) rfl (sy_goto hG a112_48 ?_)))))))))))
          refine gd_exL (i := 1) (v := (5, 0, 0)) rfl rfl fun u' hu' => ?_
          exact next ck u' _ (by omega) hu'
    show e2_gdM _ p l e R s m args below meth c Q Dg cA A ads r 0 [(2, 34, 0), (9, 0, 0), (9, 0, 0), (9, 0, 0), (9, 0, 0), (9, 0, 0)] [] E (ex_all ws f)
    exact sy_pushV hG a112_0 (sy_lstore hG a112_1 rfl rfl (Nat.le_of_ble_eq_true rfl) rfl (sy_push (y := ev_i 4) hG a112_2 rfl (sy_istore hG a112_3 rfl (Nat.le_of_ble_eq_true rfl) rfl (sy_push (y := ev_i 0) hG a112_4 rfl (sy_istore hG a112_5 rfl (Nat.le_of_ble_eq_true rfl) rfl (loop 91 0 rfl 4 0 _ (by omega) (by decide)))))))
