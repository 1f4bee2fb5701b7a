/-! BY HAND: bitsOf ends, for x and x - 1 is less than x, as numbers without a sign -/
theorem e2_okL_at {MT : List ev_M} {own : String} {ini : Bool} {ret : Option FieldType} {cc : ByteArray} : ∀ {C : List e2_I} {i : Nat} {x : e2_I}, e2_okL MT own ini ret cc C → C[i]? = some x → decode cc x.1.1 = .ok (x.1.2.1, x.1.2.2.1) := by
  intro C
  induction C with
  | nil => intro i x _ h; simp at h
  | cons y C ih =>
    intro i x h hx
    cases i with
    | zero => cases hx; exact h.2.2.1
    | succ i => exact ih h.2.2.2.2 hx
/-- another summary of the same method that a contract serves too -/
theorem e2_smOk.weak {l : Launch} {H : Nat} {s s' : e2_Sm} (hs : e2_smOk l H s) (hk : s'.1 = s.1) (hok : e2_okSB s'.2.2.1.length s'.2.1 s'.2.2.2.1 s'.2.2.2.2 = true) (hck : e2_if (e2_lle (e2_vl9 s'.2.2.1) s.2.1 s'.2.1) (e2_if (e2_pre s.2.2.1.length s.2.2.1 0 s'.2.2.1) (e2_if (e2_hlf s'.2.2.1 8 s.2.2.2.1 s'.2.2.2.1) (e2_allR s.2.2.2.2 fun q => e2_fin s'.2.2.2.2 q.1 s'.2.2.1 (e2_mrg 8 s.2.2.2.1 q.2 s'.2.2.2.1)))) = true) : e2_smOk l H s' :=
  ⟨e2_okSB_ok hok, fun M hM d hd => e2_part1 hs (by rw [← hk]; exact hM) hd hck⟩
/-- a heap of frozen cells -/
noncomputable def e2_frz (n : Nat) : Nat → Nat → ev_T ev_C n := Nat.rec (motive := fun n => Nat → Nat → ev_T ev_C n) (fun i _ => ((Bool.rec (motive := fun _ => Nat) 999 (Nat.add 100 i) (Nat.blt i 133), []) : ev_C)) (fun n ih i b => ((ih i (Nat.add b b), ih (Nat.add i b) (Nat.add b b)) : ev_T ev_C n × ev_T ev_C n)) n
noncomputable def bi_f : ev_H := e2_frz 8 0 1
def bi_T : ev_V := (11, 0, 4294967295)
def bi_E : e2_E := [(2147483648, 2147583648, 0, 0), (2147483648, 2147483656, 1, 0)]
def bi_E2 : e2_E := [(2147483648, 2147583648, 0, 0), (2147483648, 2147483656, 1, 0), (0, 4294967295, 2, 0)]
def bi_En : e2_E := [(2147483648, 2147583648, 0, 0), (2147483648, 2147483656, 1, 0), (0, 2147483647, 2, 0)]
def bi_Ep : e2_E := [(2147483648, 2147583648, 0, 0), (2147483648, 2147483656, 1, 0), (2147483649, 4294967295, 2, 0)]
theorem bi_lt {x : Int32} (h : x ≠ 0) : ev_u (x &&& (x - 1)) < ev_u x := by
  have e1 : ev_u (x &&& (x - 1)) = x.toBitVec.toNat &&& (x - 1).toBitVec.toNat := by
    show (x &&& (x - 1)).toBitVec.toNat = _
    rw [Int32.toBitVec_and, BitVec.toNat_and]
  have e2 : ev_u x = x.toBitVec.toNat := rfl
  have h0 : x.toBitVec.toNat ≠ 0 := fun q => h (by
    apply Int32.toBitVec_inj.mp
    apply BitVec.eq_of_toNat_eq
    rw [q]
    rfl)
  have e3 : (x - 1).toBitVec.toNat = x.toBitVec.toNat - 1 := by
    rw [Int32.toBitVec_sub, BitVec.toNat_sub]
    have hl := x.toBitVec.isLt
    rw [show (1 : Int32).toBitVec.toNat = 1 from rfl]
    omega
  rw [e1, e2, e3]
  have := Nat.and_le_right (n := x.toBitVec.toNat) (m := x.toBitVec.toNat - 1)
  omega
noncomputable def bi_c14 : e2_S := fun al st E h => e2_if (e2_lle (e2_vl9 E) [bi_T, bi_T, (1, 2, 4294967296)] al) (e2_if (ev_leq [(0, 1, 0), (1, 2, 4294967296), (1, 2, 4294967296)] st) (e2_if (e2_hle E 8 bi_f h) (e2_el (e2_pre 3 bi_En 0 E) true (e2_pre 3 bi_Ep 0 E))))
noncomputable def bi_c4 : e2_S := e2_cutS [([bi_T, bi_T, bi_T], bi_E, bi_f)]
set_option maxRecDepth 1000000 in
theorem bi_k4 : e2_run (e2_cal [] [] 100 0) (e2_fin [(bi_T, bi_f)]) e2x_214 (fun t => Nat.beq t 14) (fun _ => bi_c14) 100 (e2_seek e2x_214 4) [bi_T, bi_T, (1, 2, 4294967296)] [] bi_E2 bi_f = true := by decide +kernel
set_option maxRecDepth 1000000 in
theorem bi_k0 : e2_run (e2_cal [] [] 100 0) (e2_fin [(bi_T, bi_f)]) e2x_214 (fun t => Nat.beq t 4) (fun _ => bi_c4) 100 (e2_seek e2x_214 0) (e2_al 3 [bi_T]) [] bi_E bi_f = true := by decide +kernel
set_option maxRecDepth 1000000 in
theorem bi_ok : e2_okSB bi_E.length [bi_T] bi_f [(bi_T, bi_f)] = true := by decide +kernel
set_option maxRecDepth 1000000 in
theorem bi_id : e2_idh 2 8 bi_f = true := by decide +kernel
theorem bi_con (hen : en_ok) (l : Launch) : e2_smOk l 1 (214, [bi_T], bi_E, bi_f, [(bi_T, bi_f)]) := by
  refine e2_conG (H := 0) (n := 0) (C := evd_214) (S := []) (I := []) (fuel := 100) hen ei_214 e2_fz e2_fz (by decide) bi_ok fun M d hnL hC hcall p e R s m args below meth c Q D cA A ads r0 ha hl0 => ?_
  have hx := ha.1.1
  have hb := ha.1.2.1
  have hl0 : r0.length ≤ 2 := hl0
  have hd14 := e2_okL_at (i := 10) (hC []) rfl
  have hd15 := e2_okL_at (i := 11) (hC []) rfl
  have hd16 := e2_okL_at (i := 12) (hC []) rfl
  have hd17 := e2_okL_at (i := 13) (hC []) rfl
  have key : ∀ (n : Nat) (r : List Nat) (ws : va_W) (H : Heap) (locs : List Loc) (ls : Array Slot) (x : Int32), ev_u x < n → (∃ y, r = r0 ++ y) → e2_sat r bi_E → e2_wo D cA A ads r ws bi_f H → va_S A s.heap H locs → e2_fr ads r M.2.2.1 [bi_T, bi_T, (0, ev_u x, 0)] ls → W p l e R s m args below meth c H locs 0 0 Q (F0 m 4 ls []) := by
    intro n
    induction n with
    | zero => intro r ws H locs ls x hn; omega
    | succ n ih =>
      intro r ws H locs ls x hn hp hs hwo hS hfr
      have hpx : ∃ y, r ++ [ev_key x] = r ++ y := ⟨_, rfl⟩
      have hs' : e2_sat (r ++ [ev_key x]) bi_E2 := e2_sat.snoc (E := bi_E) rfl hs (Nat.zero_le _) (ev_key_lt x)
      have hrl : r.length = 2 := hs.1
      have hat : (r ++ [ev_key x])[2]? = some (ev_key x) := by rw [List.getElem?_append_right (by omega), hrl]; rfl
      have hfr' : e2_fr ads (r ++ [ev_key x]) M.2.2.1 [bi_T, bi_T, (1, 2, 4294967296)] ls := by
        obtain ⟨f1, lv, f2, f3⟩ := hfr
        refine ⟨f1, lv, f2, fun i v hi h9 => ?_⟩
        match i, hi with
        | 0, hi =>
          obtain ⟨g7, w, g1, g2⟩ := f3 0 bi_T rfl (by show (11 : Nat) ≠ 9; decide)
          cases hi
          exact ⟨g7, w, g1, g2.mono hpx⟩
        | 1, hi =>
          obtain ⟨g7, w, g1, g2⟩ := f3 1 bi_T rfl (by show (11 : Nat) ≠ 9; decide)
          cases hi
          exact ⟨g7, w, g1, g2.mono hpx⟩
        | 2, hi =>
          obtain ⟨g7, w, g1, g2⟩ := f3 2 (0, ev_u x, 0) rfl (by show (0 : Nat) ≠ 9; decide)
          cases hi
          refine ⟨by show (1 : Nat) ≠ 7; decide, w, g1, x, ev_key x, ?_, hat, rfl⟩
          have g2 : w = .int (ev_i (ev_u x)) := g2
          rw [g2, ev_iu]
        | i + 3, hi => simp at hi
      have hg : e2_gdM M p l e R s m args below meth c Q D cA A ads (r ++ [ev_key x]) 4 [bi_T, bi_T, (1, 2, 4294967296)] [] bi_E2 bi_f := by
        refine e2_from hen (ha.ext (e2_ext hp hpx)) hcall (fun t al st E h hbp hc => ?_) (hC []) ex2_214 4 bi_k4
        have hbp : t = 14 := Nat.eq_of_beq_eq_true hbp
        subst hbp
        obtain ⟨c1, hc⟩ := e2_if_t hc
        obtain ⟨c2, hc⟩ := e2_if_t hc
        obtain ⟨c3, c4⟩ := e2_if_t hc
        intro r1 ws1 H1 locs1 ls1 vs1 hp1 hs1 hwo1 hS1 hfr1 hst1
        have hst0 := ev_leq_ok c2
        subst hst0
        have hr2 : r1[2]? = some (ev_key x) := by
          obtain ⟨y, rfl⟩ := hp1
          rw [List.getElem?_append_left (List.getElem?_eq_some_iff.mp hat).1]
          exact hat
        have hnx : ∀ {w : Value}, e2_rel ads r1 (1, 2, 4294967296) w → w = .int x := by
          intro w hw
          obtain ⟨x', k, rfl, w1, w2⟩ := hw
          have w1 : r1[2]? = some k := w1
          rw [hr2] at w1
          cases w1
          have w2 : ev_key x' + 4294967296 = ev_key x + 4294967296 := w2
          rw [ev_key_eqI.mpr (show ev_key x' = ev_key x by omega)]
        obtain ⟨v1, vs2, rfl, q1, -, hst2⟩ := hst1.cons
        obtain ⟨v2, vs3, rfl, q2, -, hst3⟩ := hst2.cons
        obtain ⟨v3, vs4, rfl, q3, -, hst4⟩ := hst3.cons
        have hst5 := hst4.nil
        subst hst5
        have q1 : v1 = .int (ev_i 1) := q1
        have q2 := hnx q2
        have q3 := hnx q3
        subst q1
        subst q2
        subst q3
        have hx0 : x ≠ 0 := by
          intro hz
          have hk0 : ev_key x = 2147483648 := by rw [hz]; exact ev_key_0
          rcases e2_el_t c4 with ⟨z, -⟩ | ⟨-, z⟩
          · obtain ⟨k, -, f1, -, f3, -, -⟩ := (hs1.take (c := bi_En) z).get (show bi_En[2]? = some (0, 2147483647, 2, 0) from rfl)
            rw [List.getElem?_take, if_pos (by decide), hr2] at f1
            cases f1
            have f3 : ev_key x ≤ 2147483647 := f3
            omega
          · obtain ⟨k, -, f1, f2, -, -, -⟩ := (hs1.take (c := bi_Ep) z).get (show bi_Ep[2]? = some (2147483649, 4294967295, 2, 0) from rfl)
            rw [List.getElem?_take, if_pos (by decide), hr2] at f1
            cases f1
            have f2 : 2147483649 ≤ ev_key x := f2
            omega
        have hpre2 : e2_sat (r1.take 2) bi_E := by
          rcases e2_el_t c4 with ⟨z, -⟩ | ⟨-, z⟩
          · have := hs1.take (c := bi_En) z
            refine ⟨by rw [List.length_take, hs1.1]; have h3 := (e2_pre_ok z).1; have h3 : 3 ≤ E.length := h3; show min 2 E.length = 2; omega, fun i b hi => ?_⟩
            have hi3 : i < 2 := (List.getElem?_eq_some_iff.mp hi).1
            obtain ⟨k, kb, f1, f2, f3, f4, f5⟩ := this.get (show bi_En[i]? = some b by match i, hi3, hi with | 0, _, hi => exact hi | 1, _, hi => exact hi)
            have hb2 : b.2.2.1 < 2 := by match i, hi3, hi with | 0, _, hi => cases hi; decide | 1, _, hi => cases hi; decide
            rw [List.getElem?_take, if_pos (show i < bi_En.length by show i < 3; omega)] at f1
            rw [List.getElem?_take, if_pos (show b.2.2.1 < bi_En.length by show b.2.2.1 < 3; omega)] at f4
            exact ⟨k, kb, by rw [List.getElem?_take, if_pos hi3]; exact f1, f2, f3, by rw [List.getElem?_take, if_pos hb2]; exact f4, f5⟩
          · have := hs1.take (c := bi_Ep) z
            refine ⟨by rw [List.length_take, hs1.1]; have h3 := (e2_pre_ok z).1; have h3 : 3 ≤ E.length := h3; show min 2 E.length = 2; omega, fun i b hi => ?_⟩
            have hi3 : i < 2 := (List.getElem?_eq_some_iff.mp hi).1
            obtain ⟨k, kb, f1, f2, f3, f4, f5⟩ := this.get (show bi_Ep[i]? = some b by match i, hi3, hi with | 0, _, hi => exact hi | 1, _, hi => exact hi)
            have hb2 : b.2.2.1 < 2 := by match i, hi3, hi with | 0, _, hi => cases hi; decide | 1, _, hi => cases hi; decide
            rw [List.getElem?_take, if_pos (show i < bi_Ep.length by show i < 3; omega)] at f1
            rw [List.getElem?_take, if_pos (show b.2.2.1 < bi_Ep.length by show b.2.2.1 < 3; omega)] at f4
            exact ⟨k, kb, by rw [List.getElem?_take, if_pos hi3]; exact f1, f2, f3, by rw [List.getElem?_take, if_pos hb2]; exact f4, f5⟩
        have hwo2 := (hwo1.le hs1 c3).take bi_id
        have hfr2 := hfr1.le hs1 c1
        obtain ⟨g1, lv, g2, g3⟩ := hfr2
        refine lv_isub hx hb hd14 (lv_iand hx hb hd15 (lv_istore_n hx hb hd16 rfl g2 (by rw [hnL]; decide) rfl fun ls' hls' => lv_goto hx hb hd17 rfl ?_))
        have g4 : ∀ (i : Nat) (v : ev_V), ([bi_T, bi_T, (9, 0, 0)] : List ev_V)[i]? = some v → v.1 ≠ 9 → v.1 ≠ 7 ∧ ∃ w, (i, w) ∈ lv ∧ e2_rel ads (r1.take 2) v w := by
          intro i v hi h9
          match i, hi with
          | 0, hi =>
            cases hi
            obtain ⟨a7, w, a1, a2⟩ := g3 0 bi_T rfl (by show (11 : Nat) ≠ 9; decide)
            exact ⟨a7, w, a1, a2⟩
          | 1, hi =>
            cases hi
            obtain ⟨a7, w, a1, a2⟩ := g3 1 bi_T rfl (by show (11 : Nat) ≠ 9; decide)
            exact ⟨a7, w, a1, a2⟩
          | 2, hi => cases hi; exact absurd rfl h9
          | i + 3, hi => simp at hi
        have hset := e2_fr.set (ls' := ls') (k := 2) (v := (0, ev_u (x &&& (x - ev_i 1)), 0)) (w := .int (x &&& (x - ev_i 1))) (show ([bi_T, bi_T, (9, 0, 0)] : List ev_V).length = M.2.2.1 by rw [hnL]; rfl) g4 (fun j v hj hv => by match j, hj, hv with | 1, _, hv => cases hv; rfl) (by show (0 : Nat) ≠ 7; decide) (e2_rel.ex ads _ _ 0) hls'
        exact ih (r1.take 2) ws1 H1 locs1 ls' (x &&& (x - ev_i 1)) (by have := bi_lt hx0; rw [show ev_i 1 = (1 : Int32) from rfl]; omega) (e2_take_pre (e2_ext (e2_ext hp hpx) hp1) hl0) hpre2 hwo2 hS1 hset
      exact hg _ ws H locs ls [] ⟨[], by simp⟩ hs' (hwo.mono hpx) hS hfr' trivial
  refine e2_from hen ha hcall (fun t al st E h hbp hc => ?_) (hC []) ex2_214 0 bi_k0
  have hbp : t = 4 := Nat.eq_of_beq_eq_true hbp
  subst hbp
  refine e2_cutS_ok (bp := 4) (e2_fa (show r0.length ≤ 2 from hl0) e2_fz) (e2_fa ?_ e2_fz) al st E h hc
  intro r ws H locs ls vs hp hs hwo hS hfr hst
  have hst := hst.nil
  subst hst
  obtain ⟨f1, lv, f2, f3⟩ := hfr
  obtain ⟨-, w, w1, w2⟩ := f3 2 bi_T rfl (by show (11 : Nat) ≠ 9; decide)
  obtain ⟨x, rfl, -, -⟩ := w2
  refine key (ev_u x + 1) r ws H locs ls x (by omega) hp hs hwo hS ⟨f1, lv, f2, fun i v hi h9 => ?_⟩
  match i, hi with
  | 0, hi => cases hi; exact f3 0 bi_T rfl (by show (11 : Nat) ≠ 9; decide)
  | 1, hi => cases hi; exact f3 1 bi_T rfl (by show (11 : Nat) ≠ 9; decide)
  | 2, hi => cases hi; exact ⟨by show (0 : Nat) ≠ 7; decide, _, w1, e2_rel.ex ads _ _ 0⟩
  | i + 3, hi => simp at hi
