/-! orders(set): the set a variable -/
section EvSteps2
variable {l : Launch} {M : ev_M} {d ns nc : Nat} {v' : ev_V} {h' : ev_H} {p : Program} {e : Env} {s : State} {m : MethodId} {args : Array Value} {below : List Frame} {meth : Method} {c : Code} {D : va_G} {cA : ev_cA} {ads : List Nat} {A : Nat → Prop} {Q : State → Prop} {call : ev_Call}
theorem ev_act_weakA {pc : Nat} {al al' st : List ev_V} {h : ev_H} (hal : ev_lle ev_vl9 al' al = true) (hg : ev_gd p l e (ev_rm (d + 1) 0 0) s m args below meth c Q M.2.2.1 D cA A ads nc ns ((8, 7, 7), ns, nc, h') pc al' st ns nc h) : ev_gd p l e (ev_rm (d + 1) 0 0) s m args below meth c Q M.2.2.1 D cA A ads nc ns ((8, 7, 7), ns, nc, h') pc al st ns nc h :=
  ⟨hg.1, hg.2.1, fun ads2 ws H locs ls vs hp h0 h5 hwo hS hfr hs => hg.2.2 ads2 ws H locs ls vs hp h0 h5 hwo hS (hfr.le hal) hs⟩
theorem ev_act_weakH {pc : Nat} {al st : List ev_V} {h h1 : ev_H} (hh : ev_hle 8 h1 h = true) (hg : ev_gd p l e (ev_rm (d + 1) 0 0) s m args below meth c Q M.2.2.1 D cA A ads nc ns ((8, 7, 7), ns, nc, h') pc al st ns nc h1) : ev_gd p l e (ev_rm (d + 1) 0 0) s m args below meth c Q M.2.2.1 D cA A ads nc ns ((8, 7, 7), ns, nc, h') pc al st ns nc h :=
  ⟨hg.1, hg.2.1, fun ads2 ws H locs ls vs hp h0 h5 hwo hS hfr hs => hg.2.2 ads2 ws H locs ls vs hp h0 h5 (hwo.le hh) hS hfr hs⟩
theorem ev_act_paths (ha : ev_act l M d ns nc v' h' p e s m args below meth c D cA ads A Q) (hcall : ∀ k M, ev_MT[k]? = some M → ∀ as ns nc h r, call k as ns nc h = some r → ev_Met l M d as ns nc h r) {C : List ev_I} (hC : ev_okL ev_MT M.1.cls (M.1.name == "<init>") M.2.2.2 M.2.1 C) {Y : List ev_Y} (hY : Y = C.map ev_y) (t : Nat) {bp fuel : Nat} {al st : List ev_V} {h : ev_H} (hrun : ev_okR ns nc (ev_runN ns nc (ev_fin v' h') call Y bp (ev_cut1 []) fuel (ev_seekY Y t) al st ns nc h) = true) : ev_gd p l e (ev_rm (d + 1) 0 0) s m args below meth c Q M.2.2.1 D cA A ads nc ns ((8, 7, 7), ns, nc, h') t al st ns nc h := by
  subst hY
  obtain ⟨g, hr⟩ := ev_okR_ok hrun
  obtain ⟨E, e1, e2, e3⟩ := ev_seekY_ok t C hC
  rw [e1] at hr
  obtain ⟨x, r, hx, hgd⟩ := ev_runN_ok ha hcall (fun cu hcu => by cases hcu) C hC fuel E e2 _ _ _ _ _ g hr
  rw [← e3 x r hx]
  exact hgd
end EvSteps2
section EvEq2
variable {call : ev_Call} {Kn : ev_S} {Kj : Nat → ev_S} {al st r : List ev_V} {ns nc : Nat} {h : ev_H}
theorem ev_lt_y {z y : Nat} {Y N : ev_R} (hz : z < y) : ev_lt z z y y Y N = Y := by
  unfold ev_lt
  rw [show Nat.blt z y = true from Nat.ble_eq_true_of_le hz]
theorem ev_lt_n {z y : Nat} {Y N : ev_R} (hz : y ≤ z) : ev_lt z z y y Y N = N := by
  unfold ev_lt
  have hb : Nat.blt z y = false := by
    cases hq : Nat.blt z y with
    | false => rfl
    | true =>
      have := Nat.le_of_ble_eq_true (show Nat.ble (Nat.succ z) y = true from hq)
      omega
  rw [hb]
  show ev_if (Nat.ble y z) _ = _
  rw [ev_if_eq (Nat.ble_eq_true_of_le hz)]
theorem ev_eq_y {z : Nat} {Y N : ev_R} : ev_eq z z z z Y N = Y := by
  unfold ev_eq
  have hb : Nat.blt z z = false := by
    cases hq : Nat.blt z z with
    | false => rfl
    | true =>
      have := Nat.le_of_ble_eq_true (show Nat.ble (Nat.succ z) z = true from hq)
      omega
  have e2 : Nat.beq z z = true := by simp
  rw [hb, e2]
  rfl
theorem ev_eq_n {z y : Nat} {Y N : ev_R} (hz : z ≠ y) : ev_eq z z y y Y N = N := by
  unfold ev_eq
  by_cases hq : z < y
  · rw [show Nat.blt z y = true from Nat.ble_eq_true_of_le hq]
  · have hb : Nat.blt z y = false := by
      cases hq2 : Nat.blt z y with
      | false => rfl
      | true =>
        have := Nat.le_of_ble_eq_true (show Nat.ble (Nat.succ z) y = true from hq2)
        omega
    rw [hb, show Nat.blt y z = true from Nat.ble_eq_true_of_le (by omega)]
theorem eq_ifc {cd : ClassFile.Cond} {t z : Nat} {a : ev_V} (ha : Nat.beq a.1 0 = true) (hz : Nat.mod (Nat.add a.2.1 2147483648) 4294967296 = z) : eo_ifc cd t call Kn Kj al (a :: st) ns nc h = ev_cmp cd z z 2147483648 2147483648 (Kj t al st ns nc h) (Kn al st ns nc h) := by
  unfold eo_ifc
  rw [ev_1_cons, ev_rng_eu a ha _ hz]
theorem eq_icmp {cd : ClassFile.Cond} {t y z : Nat} {a b : ev_V} (ha : Nat.beq a.1 0 = true) (hb : Nat.beq b.1 0 = true) (hy : Nat.mod (Nat.add a.2.1 2147483648) 4294967296 = y) (hz : Nat.mod (Nat.add b.2.1 2147483648) 4294967296 = z) : eo_icmp cd t call Kn Kj al (b :: a :: st) ns nc h = ev_cmp cd y y z z (Kj t al st ns nc h) (Kn al st ns nc h) := by
  unfold eo_icmp
  rw [ev_2_cons, ev_rng_eu a ha _ hy, ev_rng_eu b hb _ hz]
theorem eq_bin {f : Int32 → Int32 → Int32} {a b : ev_V} {w : Nat} (ha : Nat.beq a.1 0 = true) (hb : Nat.beq b.1 0 = true) (hw : ev_u (f (ev_i a.2.1) (ev_i b.2.1)) = w) : eo_bin f call Kn Kj al (b :: a :: st) ns nc h = Kn al ((0, w, 0) :: st) ns nc h := by
  obtain ⟨t, u, x⟩ := a
  obtain ⟨t', u', x'⟩ := b
  have h1 : t = 0 := Nat.eq_of_beq_eq_true ha
  have h2 : t' = 0 := Nat.eq_of_beq_eq_true hb
  subst h1; subst h2
  unfold eo_bin
  rw [ev_2_cons]
  unfold ev_bin
  rw [ev_p_eq, ev_p_eq]
  show ev_fN (ev_u (f (ev_i u) (ev_i u'))) (fun w => Kn al ((0, w, 0) :: st) ns nc h) = _
  rw [show ev_u (f (ev_i u) (ev_i u')) = w from hw, ev_fN_eq]
theorem eq_stat1 {k : Nat} {w v : ev_V} {h2 : ev_H} (hsm : ev_small st = true) (hc : call k [w] ns nc h = some (v, ns, nc, h2)) : eo_stat k 1 call Kn Kj al (w :: st) ns nc h = ev_back v Kn al st ns nc h2 := by
  have e : eo_stat k 1 call Kn Kj al (w :: st) ns nc h = ev_if (ev_small st) (ev_ok (call k [w] ns nc h) fun v ns nc h => ev_back v Kn al st ns nc h) := rfl
  rw [e, ev_if_eq hsm, hc]
  rfl
theorem eq_stat2 {k : Nat} {w x v : ev_V} {h2 : ev_H} (hsm : ev_small st = true) (hc : call k [x, w] ns nc h = some (v, ns, nc, h2)) : eo_stat k 2 call Kn Kj al (w :: x :: st) ns nc h = ev_back v Kn al st ns nc h2 := by
  have e : eo_stat k 2 call Kn Kj al (w :: x :: st) ns nc h = ev_if (ev_small st) (ev_ok (call k [x, w] ns nc h) fun v ns nc h => ev_back v Kn al st ns nc h) := rfl
  rw [e, ev_if_eq hsm, hc]
  rfl
theorem eq_virt2 {k ci a b : Nat} {v w x : ev_V} {h2 : ev_H} (hsm : ev_small st = true) (ha : a < nc) (hh : Nat.beq (ev_hg h a).1 ci = true) (hc : call k [(2, a, b), x, w] ns nc h = some (v, ns, nc, h2)) : eo_virt k 2 ci call Kn Kj al (w :: x :: (2, a, b) :: st) ns nc h = ev_back v Kn al st ns nc h2 := by
  have e : eo_virt k 2 ci call Kn Kj al (w :: x :: (2, a, b) :: st) ns nc h = ev_cell nc h (2, a, b) fun _ tag _ => ev_if (Nat.beq tag ci) (ev_if (ev_small st) (ev_ok (call k [(2, a, b), x, w] ns nc h) fun v ns nc h => ev_back v Kn al st ns nc h)) := rfl
  rw [e, ev_cell_eq ha, ev_if_eq hh, ev_if_eq hsm, hc]
  rfl
theorem eq_iast {a b : Nat} {i v : ev_V} (ha : a < nc) (hh : Nat.beq (ev_hg h a).1 50 = true) (hv : v.1 ≤ 1) (hi : Nat.beq i.1 0 = true) (hlt : i.2.1 < 65536) (hl : i.2.1 < (ev_hg h a).2.length) : eo_iast call Kn Kj al (v :: i :: (2, a, b) :: st) ns nc h = Kn al st ns nc (ev_hs h a (50, (ev_hg h a).2.set i.2.1 v)) := by
  have e : eo_iast call Kn Kj al (v :: i :: (2, a, b) :: st) ns nc h = ev_cell nc h (2, a, b) fun a tag l => ev_if (Nat.beq tag 50) (ev_p v fun t _ _ => ev_if (Nat.ble t 1) (ev_nat i fun j => ev_put h a tag l j v fun h' => Kn al st ns nc h')) := rfl
  rw [e, ev_cell_eq ha, ev_if_eq hh, ev_p_eq, ev_if_eq (Nat.ble_eq_true_of_le hv)]
  unfold ev_nat
  rw [ev_p_eq, ev_if_eq hi, ev_if_eq (show Nat.blt i.2.1 65536 = true from Nat.ble_eq_true_of_le hlt)]
  unfold ev_put
  show ev_setK (ev_hg h a).2 i.2.1 v (fun l' => ev_tset 8 h a ((ev_hg h a).1, l') fun h' => Kn al st ns nc h') = _
  rw [ev_setK_eq hl, ev_tset_k, show (ev_hg h a).1 = 50 from Nat.eq_of_beq_eq_true hh]
  rfl
theorem eq_putf {ci k kd a b : Nat} {v : ev_V} (ha : a < nc) (hh : Nat.beq (ev_hg h a).1 ci = true) (hv : ev_kind kd v.1 v.2.1 v.2.2 = true) (hl : k < (ev_hg h a).2.length) : eo_putf ci k kd call Kn Kj al (v :: (2, a, b) :: st) ns nc h = Kn al st ns nc (ev_hs h a (ci, (ev_hg h a).2.set k v)) := by
  have e : eo_putf ci k kd call Kn Kj al (v :: (2, a, b) :: st) ns nc h = ev_cell nc h (2, a, b) fun a tag l => ev_if (Nat.beq tag ci) (ev_p v fun t x y => ev_if (ev_kind kd t x y) (ev_put h a tag l k v fun h' => Kn al st ns nc h')) := rfl
  rw [e, ev_cell_eq ha, ev_if_eq hh, ev_p_eq, ev_if_eq hv]
  unfold ev_put
  rw [ev_setK_eq hl, ev_tset_k, show (ev_hg h a).1 = ci from Nat.eq_of_beq_eq_true hh]
  rfl
end EvEq2
def ev_pc (u : Nat) : Nat → Nat
  | 0 => 0
  | c + 1 => ev_pc u c + (u / 2 ^ c) % 2
theorem ev_pc_le (u : Nat) : ∀ c, ev_pc u c ≤ c := by
  intro c
  induction c with
  | zero => exact Nat.le_refl _
  | succ c ih => show ev_pc u c + (u / 2 ^ c) % 2 ≤ c + 1; omega
theorem ev_pc_mono (u : Nat) : ∀ (k c : Nat), ev_pc u c ≤ ev_pc u (c + k) := by
  intro k
  induction k with
  | zero => intro c; exact Nat.le_refl _
  | succ k ih => intro c; have h1 := ih c; have h2 : ev_pc u (c + (k + 1)) = ev_pc u (c + k) + (u / 2 ^ (c + k)) % 2 := rfl; omega
theorem ev_vle_top (u b : Nat) : ev_vl9 (1, 0, 4294967295) (0, u, b) = true := by
  show (Nat.ble 0 (Nat.mod (Nat.add u 2147483648) 4294967296) && Nat.ble (Nat.mod (Nat.add u 2147483648) 4294967296) 4294967295) = true
  have h1 : Nat.mod (Nat.add u 2147483648) 4294967296 < 4294967296 := Nat.mod_lt _ (by decide)
  generalize Nat.mod (Nat.add u 2147483648) 4294967296 = z at h1
  rw [Bool.and_eq_true]
  exact ⟨Nat.ble_eq_true_of_le (Nat.zero_le _), Nat.ble_eq_true_of_le (by omega)⟩
set_option maxRecDepth 1000000 in
theorem ar_ushr0 : (List.range 12).all (fun c => (List.range 4096).all (fun u => Nat.beq (ev_u (eb_and (ev_i (ev_u (ev_ushr (ev_i u) (ev_i c)))) (ev_i 1))) (Nat.mod (Nat.div u (Nat.pow 2 c)) 2))) = true := by decide +kernel
theorem ar_ushr {u x : Nat} (hu : u < 4096) (hx : x < 12) : ev_u (eb_and (ev_i (ev_u (ev_ushr (ev_i u) (ev_i x)))) (ev_i 1)) = (u / 2 ^ x) % 2 := Nat.eq_of_beq_eq_true (List.all_eq_true.mp (List.all_eq_true.mp ar_ushr0 x (List.mem_range.mpr hx)) u (List.mem_range.mpr hu))
set_option maxRecDepth 1000000 in
theorem ar_shr0 : (List.range 12).all (fun c => (List.range 4096).all (fun u => Nat.beq (ev_u (eb_and (ev_i (ev_u (eb_shr (ev_i u) (ev_i c)))) (ev_i 1))) (Nat.mod (Nat.div u (Nat.pow 2 c)) 2))) = true := by decide +kernel
theorem ar_shr {u x : Nat} (hu : u < 4096) (hx : x < 12) : ev_u (eb_and (ev_i (ev_u (eb_shr (ev_i u) (ev_i x)))) (ev_i 1)) = (u / 2 ^ x) % 2 := Nat.eq_of_beq_eq_true (List.all_eq_true.mp (List.all_eq_true.mp ar_shr0 x (List.mem_range.mpr hx)) u (List.mem_range.mpr hu))
theorem ar_land {u : Nat} (hu : u < 4294967296) : u &&& 4294963200 = 0 ↔ u < 4096 := by
  have e1 : u &&& 4294967295 = u := by
    have := Nat.and_two_pow_sub_one_eq_mod u 32
    rw [show (2 : Nat) ^ 32 - 1 = 4294967295 by decide] at this
    rw [this]
    exact Nat.mod_eq_of_lt hu
  have e2 : u &&& 4095 = u % 4096 := by
    have := Nat.and_two_pow_sub_one_eq_mod u 12
    rw [show (2 : Nat) ^ 12 - 1 = 4095 by decide, show (2 : Nat) ^ 12 = 4096 by decide] at this
    exact this
  constructor
  · intro h
    have e3 : u = u &&& 4095 := by
      have h2 : u &&& (4294963200 ||| 4095) = (u &&& 4294963200) ||| (u &&& 4095) := Nat.and_or_distrib_left u _ _
      rw [show (4294963200 : Nat) ||| 4095 = 4294967295 by decide, e1, h, Nat.zero_or] at h2
      exact h2
    rw [e3, e2]
    exact Nat.mod_lt _ (by decide)
  · intro h
    have e3 : u &&& 4095 = u := by rw [e2]; exact Nat.mod_eq_of_lt h
    have h2 : (u &&& 4095) &&& 4294963200 = u &&& (4095 &&& 4294963200) := Nat.and_assoc u _ _
    rw [e3, show (4095 : Nat) &&& 4294963200 = 0 by decide, Nat.and_zero] at h2
    exact h2
theorem ev_ui {u : Nat} (hu : u < 4294967296) : ev_u (ev_i u) = u := by
  have h1 := ev_key_of u
  have h2 := ev_key_of (ev_u (ev_i u))
  rw [ev_iu] at h2
  have h3 : ev_u (ev_i u) < 4294967296 := (ev_i u).toUInt32.toNat_lt
  omega
theorem ar_and {u : Nat} (hu : u < 4294967296) : ev_u (eb_and (ev_i u) (ev_i 4294963200)) = u &&& 4294963200 := by
  have h1 : ev_u (eb_and (ev_i u) (ev_i 4294963200)) = ev_u (ev_i u) &&& ev_u (ev_i 4294963200) := by
    show ((ev_i u) &&& (ev_i 4294963200)).toUInt32.toNat = _
    rw [show ((ev_i u) &&& (ev_i 4294963200)).toUInt32 = (ev_i u).toUInt32 &&& (ev_i 4294963200).toUInt32 from rfl, UInt32.toNat_and]
    rfl
  rw [h1, ev_ui hu, ev_ui (by decide)]

section EvEq3
variable {call : ev_Call} {Kn : ev_S} {Kj : Nat → ev_S} {al st r : List ev_V} {ns nc : Nat} {h : ev_H}
theorem eq_ifc_eq_y {t z : Nat} {a : ev_V} (ha : Nat.beq a.1 0 = true) (hz : Nat.mod (Nat.add a.2.1 2147483648) 4294967296 = z) (hp : z = 2147483648) : eo_ifc .eq t call Kn Kj al (a :: st) ns nc h = Kj t al st ns nc h := by
  rw [eq_ifc ha hz]
  show ev_eq z z 2147483648 2147483648 (Kj t al st ns nc h) (Kn al st ns nc h) = _
  rw [hp]
  exact ev_eq_y
theorem eq_icmp_eq_y {t y z : Nat} {a b : ev_V} (ha : Nat.beq a.1 0 = true) (hb : Nat.beq b.1 0 = true) (hy : Nat.mod (Nat.add a.2.1 2147483648) 4294967296 = y) (hz : Nat.mod (Nat.add b.2.1 2147483648) 4294967296 = z) (hp : y = z) : eo_icmp .eq t call Kn Kj al (b :: a :: st) ns nc h = Kj t al st ns nc h := by
  rw [eq_icmp ha hb hy hz]
  show ev_eq y y z z (Kj t al st ns nc h) (Kn al st ns nc h) = _
  rw [hp]
  exact ev_eq_y
theorem eq_ifc_eq_n {t z : Nat} {a : ev_V} (ha : Nat.beq a.1 0 = true) (hz : Nat.mod (Nat.add a.2.1 2147483648) 4294967296 = z) (hp : z ≠ 2147483648) : eo_ifc .eq t call Kn Kj al (a :: st) ns nc h = Kn al st ns nc h := by
  rw [eq_ifc ha hz]
  show ev_eq z z 2147483648 2147483648 (Kj t al st ns nc h) (Kn al st ns nc h) = _
  exact ev_eq_n hp
theorem eq_icmp_eq_n {t y z : Nat} {a b : ev_V} (ha : Nat.beq a.1 0 = true) (hb : Nat.beq b.1 0 = true) (hy : Nat.mod (Nat.add a.2.1 2147483648) 4294967296 = y) (hz : Nat.mod (Nat.add b.2.1 2147483648) 4294967296 = z) (hp : y ≠ z) : eo_icmp .eq t call Kn Kj al (b :: a :: st) ns nc h = Kn al st ns nc h := by
  rw [eq_icmp ha hb hy hz]
  show ev_eq y y z z (Kj t al st ns nc h) (Kn al st ns nc h) = _
  exact ev_eq_n hp
theorem eq_ifc_ne_y {t z : Nat} {a : ev_V} (ha : Nat.beq a.1 0 = true) (hz : Nat.mod (Nat.add a.2.1 2147483648) 4294967296 = z) (hp : z ≠ 2147483648) : eo_ifc .ne t call Kn Kj al (a :: st) ns nc h = Kj t al st ns nc h := by
  rw [eq_ifc ha hz]
  show ev_eq z z 2147483648 2147483648 (Kn al st ns nc h) (Kj t al st ns nc h) = _
  exact ev_eq_n hp
theorem eq_icmp_ne_y {t y z : Nat} {a b : ev_V} (ha : Nat.beq a.1 0 = true) (hb : Nat.beq b.1 0 = true) (hy : Nat.mod (Nat.add a.2.1 2147483648) 4294967296 = y) (hz : Nat.mod (Nat.add b.2.1 2147483648) 4294967296 = z) (hp : y ≠ z) : eo_icmp .ne t call Kn Kj al (b :: a :: st) ns nc h = Kj t al st ns nc h := by
  rw [eq_icmp ha hb hy hz]
  show ev_eq y y z z (Kn al st ns nc h) (Kj t al st ns nc h) = _
  exact ev_eq_n hp
theorem eq_ifc_ne_n {t z : Nat} {a : ev_V} (ha : Nat.beq a.1 0 = true) (hz : Nat.mod (Nat.add a.2.1 2147483648) 4294967296 = z) (hp : z = 2147483648) : eo_ifc .ne t call Kn Kj al (a :: st) ns nc h = Kn al st ns nc h := by
  rw [eq_ifc ha hz]
  show ev_eq z z 2147483648 2147483648 (Kn al st ns nc h) (Kj t al st ns nc h) = _
  rw [hp]
  exact ev_eq_y
theorem eq_icmp_ne_n {t y z : Nat} {a b : ev_V} (ha : Nat.beq a.1 0 = true) (hb : Nat.beq b.1 0 = true) (hy : Nat.mod (Nat.add a.2.1 2147483648) 4294967296 = y) (hz : Nat.mod (Nat.add b.2.1 2147483648) 4294967296 = z) (hp : y = z) : eo_icmp .ne t call Kn Kj al (b :: a :: st) ns nc h = Kn al st ns nc h := by
  rw [eq_icmp ha hb hy hz]
  show ev_eq y y z z (Kn al st ns nc h) (Kj t al st ns nc h) = _
  rw [hp]
  exact ev_eq_y
theorem eq_ifc_lt_y {t z : Nat} {a : ev_V} (ha : Nat.beq a.1 0 = true) (hz : Nat.mod (Nat.add a.2.1 2147483648) 4294967296 = z) (hp : z < 2147483648) : eo_ifc .lt t call Kn Kj al (a :: st) ns nc h = Kj t al st ns nc h := by
  rw [eq_ifc ha hz]
  show ev_lt z z 2147483648 2147483648 (Kj t al st ns nc h) (Kn al st ns nc h) = _
  exact ev_lt_y hp
theorem eq_icmp_lt_y {t y z : Nat} {a b : ev_V} (ha : Nat.beq a.1 0 = true) (hb : Nat.beq b.1 0 = true) (hy : Nat.mod (Nat.add a.2.1 2147483648) 4294967296 = y) (hz : Nat.mod (Nat.add b.2.1 2147483648) 4294967296 = z) (hp : y < z) : eo_icmp .lt t call Kn Kj al (b :: a :: st) ns nc h = Kj t al st ns nc h := by
  rw [eq_icmp ha hb hy hz]
  show ev_lt y y z z (Kj t al st ns nc h) (Kn al st ns nc h) = _
  exact ev_lt_y hp
theorem eq_ifc_lt_n {t z : Nat} {a : ev_V} (ha : Nat.beq a.1 0 = true) (hz : Nat.mod (Nat.add a.2.1 2147483648) 4294967296 = z) (hp : 2147483648 ≤ z) : eo_ifc .lt t call Kn Kj al (a :: st) ns nc h = Kn al st ns nc h := by
  rw [eq_ifc ha hz]
  show ev_lt z z 2147483648 2147483648 (Kj t al st ns nc h) (Kn al st ns nc h) = _
  exact ev_lt_n hp
theorem eq_icmp_lt_n {t y z : Nat} {a b : ev_V} (ha : Nat.beq a.1 0 = true) (hb : Nat.beq b.1 0 = true) (hy : Nat.mod (Nat.add a.2.1 2147483648) 4294967296 = y) (hz : Nat.mod (Nat.add b.2.1 2147483648) 4294967296 = z) (hp : z ≤ y) : eo_icmp .lt t call Kn Kj al (b :: a :: st) ns nc h = Kn al st ns nc h := by
  rw [eq_icmp ha hb hy hz]
  show ev_lt y y z z (Kj t al st ns nc h) (Kn al st ns nc h) = _
  exact ev_lt_n hp
theorem eq_ifc_ge_y {t z : Nat} {a : ev_V} (ha : Nat.beq a.1 0 = true) (hz : Nat.mod (Nat.add a.2.1 2147483648) 4294967296 = z) (hp : 2147483648 ≤ z) : eo_ifc .ge t call Kn Kj al (a :: st) ns nc h = Kj t al st ns nc h := by
  rw [eq_ifc ha hz]
  show ev_lt z z 2147483648 2147483648 (Kn al st ns nc h) (Kj t al st ns nc h) = _
  exact ev_lt_n hp
theorem eq_icmp_ge_y {t y z : Nat} {a b : ev_V} (ha : Nat.beq a.1 0 = true) (hb : Nat.beq b.1 0 = true) (hy : Nat.mod (Nat.add a.2.1 2147483648) 4294967296 = y) (hz : Nat.mod (Nat.add b.2.1 2147483648) 4294967296 = z) (hp : z ≤ y) : eo_icmp .ge t call Kn Kj al (b :: a :: st) ns nc h = Kj t al st ns nc h := by
  rw [eq_icmp ha hb hy hz]
  show ev_lt y y z z (Kn al st ns nc h) (Kj t al st ns nc h) = _
  exact ev_lt_n hp
theorem eq_ifc_ge_n {t z : Nat} {a : ev_V} (ha : Nat.beq a.1 0 = true) (hz : Nat.mod (Nat.add a.2.1 2147483648) 4294967296 = z) (hp : z < 2147483648) : eo_ifc .ge t call Kn Kj al (a :: st) ns nc h = Kn al st ns nc h := by
  rw [eq_ifc ha hz]
  show ev_lt z z 2147483648 2147483648 (Kn al st ns nc h) (Kj t al st ns nc h) = _
  exact ev_lt_y hp
theorem eq_icmp_ge_n {t y z : Nat} {a b : ev_V} (ha : Nat.beq a.1 0 = true) (hb : Nat.beq b.1 0 = true) (hy : Nat.mod (Nat.add a.2.1 2147483648) 4294967296 = y) (hz : Nat.mod (Nat.add b.2.1 2147483648) 4294967296 = z) (hp : y < z) : eo_icmp .ge t call Kn Kj al (b :: a :: st) ns nc h = Kn al st ns nc h := by
  rw [eq_icmp ha hb hy hz]
  show ev_lt y y z z (Kn al st ns nc h) (Kj t al st ns nc h) = _
  exact ev_lt_y hp
theorem eq_ifc_gt_y {t z : Nat} {a : ev_V} (ha : Nat.beq a.1 0 = true) (hz : Nat.mod (Nat.add a.2.1 2147483648) 4294967296 = z) (hp : 2147483648 < z) : eo_ifc .gt t call Kn Kj al (a :: st) ns nc h = Kj t al st ns nc h := by
  rw [eq_ifc ha hz]
  show ev_lt 2147483648 2147483648 z z (Kj t al st ns nc h) (Kn al st ns nc h) = _
  exact ev_lt_y hp
theorem eq_icmp_gt_y {t y z : Nat} {a b : ev_V} (ha : Nat.beq a.1 0 = true) (hb : Nat.beq b.1 0 = true) (hy : Nat.mod (Nat.add a.2.1 2147483648) 4294967296 = y) (hz : Nat.mod (Nat.add b.2.1 2147483648) 4294967296 = z) (hp : z < y) : eo_icmp .gt t call Kn Kj al (b :: a :: st) ns nc h = Kj t al st ns nc h := by
  rw [eq_icmp ha hb hy hz]
  show ev_lt z z y y (Kj t al st ns nc h) (Kn al st ns nc h) = _
  exact ev_lt_y hp
theorem eq_ifc_gt_n {t z : Nat} {a : ev_V} (ha : Nat.beq a.1 0 = true) (hz : Nat.mod (Nat.add a.2.1 2147483648) 4294967296 = z) (hp : z ≤ 2147483648) : eo_ifc .gt t call Kn Kj al (a :: st) ns nc h = Kn al st ns nc h := by
  rw [eq_ifc ha hz]
  show ev_lt 2147483648 2147483648 z z (Kj t al st ns nc h) (Kn al st ns nc h) = _
  exact ev_lt_n hp
theorem eq_icmp_gt_n {t y z : Nat} {a b : ev_V} (ha : Nat.beq a.1 0 = true) (hb : Nat.beq b.1 0 = true) (hy : Nat.mod (Nat.add a.2.1 2147483648) 4294967296 = y) (hz : Nat.mod (Nat.add b.2.1 2147483648) 4294967296 = z) (hp : y ≤ z) : eo_icmp .gt t call Kn Kj al (b :: a :: st) ns nc h = Kn al st ns nc h := by
  rw [eq_icmp ha hb hy hz]
  show ev_lt z z y y (Kj t al st ns nc h) (Kn al st ns nc h) = _
  exact ev_lt_n hp
theorem eq_ifc_le_y {t z : Nat} {a : ev_V} (ha : Nat.beq a.1 0 = true) (hz : Nat.mod (Nat.add a.2.1 2147483648) 4294967296 = z) (hp : z ≤ 2147483648) : eo_ifc .le t call Kn Kj al (a :: st) ns nc h = Kj t al st ns nc h := by
  rw [eq_ifc ha hz]
  show ev_lt 2147483648 2147483648 z z (Kn al st ns nc h) (Kj t al st ns nc h) = _
  exact ev_lt_n hp
theorem eq_icmp_le_y {t y z : Nat} {a b : ev_V} (ha : Nat.beq a.1 0 = true) (hb : Nat.beq b.1 0 = true) (hy : Nat.mod (Nat.add a.2.1 2147483648) 4294967296 = y) (hz : Nat.mod (Nat.add b.2.1 2147483648) 4294967296 = z) (hp : y ≤ z) : eo_icmp .le t call Kn Kj al (b :: a :: st) ns nc h = Kj t al st ns nc h := by
  rw [eq_icmp ha hb hy hz]
  show ev_lt z z y y (Kn al st ns nc h) (Kj t al st ns nc h) = _
  exact ev_lt_n hp
theorem eq_ifc_le_n {t z : Nat} {a : ev_V} (ha : Nat.beq a.1 0 = true) (hz : Nat.mod (Nat.add a.2.1 2147483648) 4294967296 = z) (hp : 2147483648 < z) : eo_ifc .le t call Kn Kj al (a :: st) ns nc h = Kn al st ns nc h := by
  rw [eq_ifc ha hz]
  show ev_lt 2147483648 2147483648 z z (Kn al st ns nc h) (Kj t al st ns nc h) = _
  exact ev_lt_y hp
theorem eq_icmp_le_n {t y z : Nat} {a b : ev_V} (ha : Nat.beq a.1 0 = true) (hb : Nat.beq b.1 0 = true) (hy : Nat.mod (Nat.add a.2.1 2147483648) 4294967296 = y) (hz : Nat.mod (Nat.add b.2.1 2147483648) 4294967296 = z) (hp : z < y) : eo_icmp .le t call Kn Kj al (b :: a :: st) ns nc h = Kn al st ns nc h := by
  rw [eq_icmp ha hb hy hz]
  show ev_lt z z y y (Kn al st ns nc h) (Kj t al st ns nc h) = _
  exact ev_lt_y hp
end EvEq3
theorem ev_lle_nil {le : ev_V → ev_V → Bool} : ev_lle le [] [] = true := rfl
theorem ev_lle_cons {le : ev_V → ev_V → Bool} {x y : ev_V} {xs ys : List ev_V} (h1 : le x y = true) (h2 : ev_lle le xs ys = true) : ev_lle le (x :: xs) (y :: ys) = true := by
  show Bool.rec (motive := fun _ => Bool) false (ev_lle le xs ys) (le x y) = true
  rw [h1]
  exact h2
theorem ev_vl9_0 (u : Nat) : ev_vl9 (0, u, 0) (0, u, 0) = true := ev_vle_0 u
set_option maxRecDepth 100000 in
theorem sk_101_0 : ev_seek evx_101 0 = (0, eo_iload 0) :: (1, eo_iload 1) :: evx_101.drop 2 := rfl
set_option maxRecDepth 100000 in
theorem sk_101_1 : ev_seek evx_101 1 = (1, eo_iload 1) :: (2, eo_bin ev_ushr) :: evx_101.drop 3 := rfl
set_option maxRecDepth 100000 in
theorem sk_101_2 : ev_seek evx_101 2 = (2, eo_bin ev_ushr) :: (3, eo_push (0, 1, 0)) :: evx_101.drop 4 := rfl
set_option maxRecDepth 100000 in
theorem sk_101_3 : ev_seek evx_101 3 = (3, eo_push (0, 1, 0)) :: (4, eo_bin eb_and) :: evx_101.drop 5 := rfl
set_option maxRecDepth 100000 in
theorem sk_101_4 : ev_seek evx_101 4 = (4, eo_bin eb_and) :: (5, eo_ifc .eq 12) :: evx_101.drop 6 := rfl
set_option maxRecDepth 100000 in
theorem sk_101_5 : ev_seek evx_101 5 = (5, eo_ifc .eq 12) :: (8, eo_push (0, 1, 0)) :: evx_101.drop 7 := rfl
set_option maxRecDepth 100000 in
theorem sk_101_8 : ev_seek evx_101 8 = (8, eo_push (0, 1, 0)) :: (9, eo_goto 13) :: evx_101.drop 8 := rfl
set_option maxRecDepth 100000 in
theorem sk_101_9 : ev_seek evx_101 9 = (9, eo_goto 13) :: evx_101.drop 8 := rfl
set_option maxRecDepth 100000 in
theorem sk_101_12 : ev_seek evx_101 12 = (12, eo_push (0, 0, 0)) :: (13, eo_iret 1) :: evx_101.drop 10 := rfl
theorem isIn_x (l : Launch) (d : Nat) {u x : Nat} (hu : u < 4096) (hx : x < 12) (ns nc : Nat) (h : ev_H) : ev_Met l ev_N101 (d + 1) [(0, u, 0), (0, x, 0)] ns nc h ((0, (u / 2 ^ x) % 2, 0), ns, nc, h) := by
  refine ev_Met_ofG (d := d) (by decide +kernel) (Nat.le_of_ble_eq_true rfl) (by intro v hv; simp only [List.mem_cons, List.not_mem_nil, or_false] at hv; rcases hv with rfl | rfl <;> exact Nat.le_of_ble_eq_true rfl) ?_
  intro p e s m args below meth c D cA ads A Q ha
  have hC : ev_okL ev_MT ev_N101.1.cls (ev_N101.1.name == "<init>") ev_N101.2.2.2 ev_N101.2.1 evc_101 := ev_chk_ok _ ek_101
  have hcall := ev_none_ok l d
  have hb : (u / 2 ^ x) % 2 < 2 := Nat.mod_lt _ (by decide)
  generalize hw : ev_u (ev_ushr (ev_i u) (ev_i x)) = w
  have hy : ev_u (eb_and (ev_i w) (ev_i 1)) = (u / 2 ^ x) % 2 := by rw [← hw]; exact ar_ushr hu hx
  have kb : Nat.mod (Nat.add ((u / 2 ^ x) % 2) 2147483648) 4294967296 = (u / 2 ^ x) % 2 + 2147483648 := ev_key_small (by omega)
  generalize hbd : (u / 2 ^ x) % 2 = b at *
  refine ev_act_step ha hcall hC ex_101 sk_101_0 (fun Kn Kj => eq_iload (v := (0, u, 0)) rfl (Nat.zero_le _)) ?_
  refine ev_act_step ha hcall hC ex_101 sk_101_1 (fun Kn Kj => eq_iload (v := (0, x, 0)) rfl (Nat.zero_le _)) ?_
  refine ev_act_step ha hcall hC ex_101 sk_101_2 (fun Kn Kj => eq_bin (a := (0, u, 0)) (b := (0, x, 0)) rfl rfl hw) ?_
  refine ev_act_step ha hcall hC ex_101 sk_101_3 (fun Kn Kj => rfl) ?_
  refine ev_act_step ha hcall hC ex_101 sk_101_4 (fun Kn Kj => eq_bin (a := (0, w, 0)) (b := (0, 1, 0)) rfl rfl hy) ?_
  by_cases hz : b = 0
  · subst hz
    refine ev_act_jump ha hcall hC ex_101 sk_101_5 (fun Kn Kj => eq_ifc_eq_y (a := (0, 0, 0)) rfl (ev_key_small (u := 0) (by decide)) (by omega)) ?_
    exact ev_act_endG (v' := (0, 0, 0)) ha hcall hC ex_101 12 (fuel := 10) rfl
  · have hb1 : b = 1 := by omega
    subst hb1
    refine ev_act_step ha hcall hC ex_101 sk_101_5 (fun Kn Kj => eq_ifc_eq_n (a := (0, 1, 0)) rfl (ev_key_small (u := 1) (by decide)) (by omega)) ?_
    exact ev_act_endG (v' := (0, 1, 0)) ha hcall hC ex_101 8 (fuel := 10) rfl
set_option maxRecDepth 100000 in
theorem sk_120_0 : ev_seek evx_120 0 = (0, eo_iload 0) :: (1, eo_iload 1) :: evx_120.drop 2 := rfl
set_option maxRecDepth 100000 in
theorem sk_120_1 : ev_seek evx_120 1 = (1, eo_iload 1) :: (2, eo_bin eb_shr) :: evx_120.drop 3 := rfl
set_option maxRecDepth 100000 in
theorem sk_120_2 : ev_seek evx_120 2 = (2, eo_bin eb_shr) :: (3, eo_push (0, 1, 0)) :: evx_120.drop 4 := rfl
set_option maxRecDepth 100000 in
theorem sk_120_3 : ev_seek evx_120 3 = (3, eo_push (0, 1, 0)) :: (4, eo_bin eb_and) :: evx_120.drop 5 := rfl
set_option maxRecDepth 100000 in
theorem sk_120_4 : ev_seek evx_120 4 = (4, eo_bin eb_and) :: (5, eo_push (0, 1, 0)) :: evx_120.drop 6 := rfl
set_option maxRecDepth 100000 in
theorem sk_120_5 : ev_seek evx_120 5 = (5, eo_push (0, 1, 0)) :: (6, eo_icmp .ne 13) :: evx_120.drop 7 := rfl
set_option maxRecDepth 100000 in
theorem sk_120_6 : ev_seek evx_120 6 = (6, eo_icmp .ne 13) :: (9, eo_push (0, 1, 0)) :: evx_120.drop 8 := rfl
set_option maxRecDepth 100000 in
theorem sk_120_9 : ev_seek evx_120 9 = (9, eo_push (0, 1, 0)) :: (10, eo_goto 14) :: evx_120.drop 9 := rfl
set_option maxRecDepth 100000 in
theorem sk_120_10 : ev_seek evx_120 10 = (10, eo_goto 14) :: evx_120.drop 9 := rfl
set_option maxRecDepth 100000 in
theorem sk_120_13 : ev_seek evx_120 13 = (13, eo_push (0, 0, 0)) :: (14, eo_iret 1) :: evx_120.drop 11 := rfl
theorem has_x (l : Launch) (d : Nat) {u x : Nat} (hu : u < 4096) (hx : x < 12) (ns nc : Nat) (h : ev_H) : ev_Met l ev_N120 (d + 1) [(0, u, 0), (0, x, 0)] ns nc h ((0, (u / 2 ^ x) % 2, 0), ns, nc, h) := by
  refine ev_Met_ofG (d := d) (by decide +kernel) (Nat.le_of_ble_eq_true rfl) (by intro v hv; simp only [List.mem_cons, List.not_mem_nil, or_false] at hv; rcases hv with rfl | rfl <;> exact Nat.le_of_ble_eq_true rfl) ?_
  intro p e s m args below meth c D cA ads A Q ha
  have hC : ev_okL ev_MT ev_N120.1.cls (ev_N120.1.name == "<init>") ev_N120.2.2.2 ev_N120.2.1 evc_120 := ev_chk_ok _ ek_120
  have hcall := ev_none_ok l d
  have hb : (u / 2 ^ x) % 2 < 2 := Nat.mod_lt _ (by decide)
  generalize hw : ev_u (eb_shr (ev_i u) (ev_i x)) = w
  have hy : ev_u (eb_and (ev_i w) (ev_i 1)) = (u / 2 ^ x) % 2 := by rw [← hw]; exact ar_shr hu hx
  have kb : Nat.mod (Nat.add ((u / 2 ^ x) % 2) 2147483648) 4294967296 = (u / 2 ^ x) % 2 + 2147483648 := ev_key_small (by omega)
  generalize hbd : (u / 2 ^ x) % 2 = b at *
  refine ev_act_step ha hcall hC ex_120 sk_120_0 (fun Kn Kj => eq_iload (v := (0, u, 0)) rfl (Nat.zero_le _)) ?_
  refine ev_act_step ha hcall hC ex_120 sk_120_1 (fun Kn Kj => eq_iload (v := (0, x, 0)) rfl (Nat.zero_le _)) ?_
  refine ev_act_step ha hcall hC ex_120 sk_120_2 (fun Kn Kj => eq_bin (a := (0, u, 0)) (b := (0, x, 0)) rfl rfl hw) ?_
  refine ev_act_step ha hcall hC ex_120 sk_120_3 (fun Kn Kj => rfl) ?_
  refine ev_act_step ha hcall hC ex_120 sk_120_4 (fun Kn Kj => eq_bin (a := (0, w, 0)) (b := (0, 1, 0)) rfl rfl hy) ?_
  refine ev_act_step ha hcall hC ex_120 sk_120_5 (fun Kn Kj => rfl) ?_
  by_cases hz : b = 0
  · subst hz
    refine ev_act_jump ha hcall hC ex_120 sk_120_6 (fun Kn Kj => eq_icmp_ne_y (a := (0, 0, 0)) (b := (0, 1, 0)) rfl rfl (ev_key_small (u := 0) (by decide)) (ev_key_small (u := 1) (by decide)) (by omega)) ?_
    exact ev_act_endG (v' := (0, 0, 0)) ha hcall hC ex_120 13 (fuel := 10) rfl
  · have hb1 : b = 1 := by omega
    subst hb1
    refine ev_act_step ha hcall hC ex_120 sk_120_6 (fun Kn Kj => eq_icmp_ne_n (a := (0, 1, 0)) (b := (0, 1, 0)) rfl rfl (ev_key_small (u := 1) (by decide)) (ev_key_small (u := 1) (by decide)) (by omega)) ?_
    exact ev_act_endG (v' := (0, 1, 0)) ha hcall hC ex_120 9 (fuel := 10) rfl
abbrev ev_N35 : ev_M := ((⟨"MeadowSigns$Planner", "listMembers", "(I)I"⟩, prog_6_method_15_code, 4, some .int) : ev_M)
set_option maxRecDepth 100000 in
theorem sk_35_0 : ev_seek evx_35 0 = (0, eo_push (0, 0, 0)) :: (1, eo_istore 2) :: evx_35.drop 2 := rfl
set_option maxRecDepth 100000 in
theorem sk_35_1 : ev_seek evx_35 1 = (1, eo_istore 2) :: (2, eo_push (0, 0, 0)) :: evx_35.drop 3 := rfl
set_option maxRecDepth 100000 in
theorem sk_35_2 : ev_seek evx_35 2 = (2, eo_push (0, 0, 0)) :: (3, eo_istore 3) :: evx_35.drop 4 := rfl
set_option maxRecDepth 100000 in
theorem sk_35_3 : ev_seek evx_35 3 = (3, eo_istore 3) :: (4, eo_iload 3) :: evx_35.drop 5 := rfl
set_option maxRecDepth 100000 in
theorem sk_35_4 : ev_seek evx_35 4 = (4, eo_iload 3) :: (5, eo_aload 0) :: evx_35.drop 6 := rfl
set_option maxRecDepth 100000 in
theorem sk_35_5 : ev_seek evx_35 5 = (5, eo_aload 0) :: (6, eo_getf 4 2) :: evx_35.drop 7 := rfl
set_option maxRecDepth 100000 in
theorem sk_35_6 : ev_seek evx_35 6 = (6, eo_getf 4 2) :: (9, eo_getf 8 0) :: evx_35.drop 8 := rfl
set_option maxRecDepth 100000 in
theorem sk_35_9 : ev_seek evx_35 9 = (9, eo_getf 8 0) :: (12, eo_icmp .ge 45) :: evx_35.drop 9 := rfl
set_option maxRecDepth 100000 in
theorem sk_35_12 : ev_seek evx_35 12 = (12, eo_icmp .ge 45) :: (15, eo_iload 2) :: evx_35.drop 10 := rfl
set_option maxRecDepth 100000 in
theorem sk_35_15 : ev_seek evx_35 15 = (15, eo_iload 2) :: (16, eo_push (0, 8, 0)) :: evx_35.drop 11 := rfl
set_option maxRecDepth 100000 in
theorem sk_35_16 : ev_seek evx_35 16 = (16, eo_push (0, 8, 0)) :: (18, eo_icmp .ge 45) :: evx_35.drop 12 := rfl
set_option maxRecDepth 100000 in
theorem sk_35_18 : ev_seek evx_35 18 = (18, eo_icmp .ge 45) :: (21, eo_iload 1) :: evx_35.drop 13 := rfl
set_option maxRecDepth 100000 in
theorem sk_35_21 : ev_seek evx_35 21 = (21, eo_iload 1) :: (22, eo_iload 3) :: evx_35.drop 14 := rfl
set_option maxRecDepth 100000 in
theorem sk_35_22 : ev_seek evx_35 22 = (22, eo_iload 3) :: (23, eo_stat 101 2) :: evx_35.drop 15 := rfl
set_option maxRecDepth 100000 in
theorem sk_35_23 : ev_seek evx_35 23 = (23, eo_stat 101 2) :: (26, eo_ifc .eq 39) :: evx_35.drop 16 := rfl
set_option maxRecDepth 100000 in
theorem sk_35_26 : ev_seek evx_35 26 = (26, eo_ifc .eq 39) :: (29, eo_aload 0) :: evx_35.drop 17 := rfl
set_option maxRecDepth 100000 in
theorem sk_35_29 : ev_seek evx_35 29 = (29, eo_aload 0) :: (30, eo_getf 4 4) :: evx_35.drop 18 := rfl
set_option maxRecDepth 100000 in
theorem sk_35_30 : ev_seek evx_35 30 = (30, eo_getf 4 4) :: (33, eo_iload 2) :: evx_35.drop 19 := rfl
set_option maxRecDepth 100000 in
theorem sk_35_33 : ev_seek evx_35 33 = (33, eo_iload 2) :: (34, eo_iload 3) :: evx_35.drop 20 := rfl
set_option maxRecDepth 100000 in
theorem sk_35_34 : ev_seek evx_35 34 = (34, eo_iload 3) :: (35, eo_iast) :: evx_35.drop 21 := rfl
set_option maxRecDepth 100000 in
theorem sk_35_35 : ev_seek evx_35 35 = (35, eo_iast) :: (36, eo_iinc 2 1) :: evx_35.drop 22 := rfl
set_option maxRecDepth 100000 in
theorem sk_35_36 : ev_seek evx_35 36 = (36, eo_iinc 2 1) :: (39, eo_iinc 3 1) :: evx_35.drop 23 := rfl
set_option maxRecDepth 100000 in
theorem sk_35_39 : ev_seek evx_35 39 = (39, eo_iinc 3 1) :: (42, eo_goto 4) :: evx_35.drop 24 := rfl
set_option maxRecDepth 100000 in
theorem sk_35_42 : ev_seek evx_35 42 = (42, eo_goto 4) :: evx_35.drop 24 := rfl
set_option maxRecDepth 1000000 in
theorem lm_z59 : Nat.beq (ev_hg ev_zL 59).1 4 = true := by decide +kernel
set_option maxRecDepth 1000000 in
theorem lm_z59t : (ev_hg ev_zL 59).2[2]? = some (2, 1, 0) := by decide +kernel
set_option maxRecDepth 1000000 in
theorem lm_z59m : (ev_hg ev_zL 59).2[4]? = some (2, 62, 0) := by decide +kernel
set_option maxRecDepth 1000000 in
theorem lm_z1 : Nat.beq (ev_hg ev_zL 1).1 8 = true := by decide +kernel
set_option maxRecDepth 1000000 in
theorem lm_z1s : (ev_hg ev_zL 1).2[0]? = some (0, 12, 0) := by decide +kernel
set_option maxRecDepth 1000000 in
theorem lm_z62 : Nat.beq (ev_hg ev_zL 62).1 50 = true := by decide +kernel
set_option maxRecDepth 1000000 in
theorem lm_z62l : (ev_hg ev_zL 62).2.length = 8 := by decide +kernel
set_option maxRecDepth 1000000 in
theorem lm_st : (List.range 8).all (fun n => (List.range 12).all (fun c => ev_hle 8 ev_zL (ev_hs ev_zL 62 (50, (ev_hg ev_zL 62).2.set n (0, c, 0))))) = true := by decide +kernel
theorem lm_head {l : Launch} {p : Program} {e : Env} {s : State} {m : MethodId} {args : Array Value} {below : List Frame} {meth : Method} {c : Code} {D : va_G} {cA : ev_cA} {ads : List Nat} {A : Nat → Prop} {Q : State → Prop} {u : Nat} (hu : u < 4096) (h8 : ev_pc u 12 ≤ 8) (ha : ev_act l ev_N35 17 14699 133 (0, ev_pc u 12, 0) ev_zL p e s m args below meth c D cA ads A Q) : ∀ j x, x + j = 12 → ev_gd p l e (ev_rm (17 + 1) 0 0) s m args below meth c Q ev_N35.2.2.1 D cA A ads 133 14699 ((8, 7, 7), 14699, 133, ev_zL) 4 [(2, 59, 0), (0, u, 0), (0, ev_pc u x, 0), (0, x, 0)] [] 14699 133 ev_zL := by
  have hC : ev_okL ev_MT ev_N35.1.cls (ev_N35.1.name == "<init>") ev_N35.2.2.2 ev_N35.2.1 evc_35 := ev_chk_ok _ ek_35
  have hcall := ev_none_ok l 17
  intro j
  induction j with
  | zero =>
    intro x hx
    have hx12 : x = 12 := by omega
    subst hx12
    refine ev_act_step ha hcall hC ex_35 sk_35_4 (fun Kn Kj => eq_iload (v := (0, 12, 0)) rfl (Nat.zero_le _)) ?_
    refine ev_act_step ha hcall hC ex_35 sk_35_5 (fun Kn Kj => eq_aload (v := (2, 59, 0)) rfl rfl) ?_
    refine ev_act_step ha hcall hC ex_35 sk_35_6 (fun Kn Kj => eq_getf (by decide) lm_z59 lm_z59t) ?_
    refine ev_act_step ha hcall hC ex_35 sk_35_9 (fun Kn Kj => eq_getf (by decide) lm_z1 lm_z1s) ?_
    refine ev_act_jump ha hcall hC ex_35 sk_35_12 (fun Kn Kj => eq_icmp_ge_y (a := (0, 12, 0)) (b := (0, 12, 0)) rfl rfl (ev_key_small (u := 12) (by decide)) (ev_key_small (u := 12) (by decide)) (Nat.le_refl _)) ?_
    exact ev_act_endG (v' := (0, ev_pc u 12, 0)) ha hcall hC ex_35 45 (fuel := 10) rfl
  | succ j ih =>
    intro x hx
    have kx : Nat.mod (Nat.add x 2147483648) 4294967296 = x + 2147483648 := ev_key_small (by omega)
    have m1 : ev_pc u x ≤ ev_pc u 12 := by have := ev_pc_mono u (12 - x) x; rw [show x + (12 - x) = 12 by omega] at this; exact this
    have kn : Nat.mod (Nat.add (ev_pc u x) 2147483648) 4294967296 = ev_pc u x + 2147483648 := ev_key_small (by omega)
    have hnext : ev_pc u (x + 1) = ev_pc u x + (u / 2 ^ x) % 2 := rfl
    have hb : (u / 2 ^ x) % 2 < 2 := Nat.mod_lt _ (by decide)
    refine ev_act_step ha hcall hC ex_35 sk_35_4 (fun Kn Kj => eq_iload (v := (0, x, 0)) rfl (Nat.zero_le _)) ?_
    refine ev_act_step ha hcall hC ex_35 sk_35_5 (fun Kn Kj => eq_aload (v := (2, 59, 0)) rfl rfl) ?_
    refine ev_act_step ha hcall hC ex_35 sk_35_6 (fun Kn Kj => eq_getf (by decide) lm_z59 lm_z59t) ?_
    refine ev_act_step ha hcall hC ex_35 sk_35_9 (fun Kn Kj => eq_getf (by decide) lm_z1 lm_z1s) ?_
    refine ev_act_step ha hcall hC ex_35 sk_35_12 (fun Kn Kj => eq_icmp_ge_n (a := (0, x, 0)) (b := (0, 12, 0)) rfl rfl kx (ev_key_small (u := 12) (by decide)) (by omega)) ?_
    refine ev_act_step ha hcall hC ex_35 sk_35_15 (fun Kn Kj => eq_iload (v := (0, ev_pc u x, 0)) rfl (Nat.zero_le _)) ?_
    refine ev_act_step ha hcall hC ex_35 sk_35_16 (fun Kn Kj => rfl) ?_
    by_cases h88 : 8 ≤ ev_pc u x
    · refine ev_act_jump ha hcall hC ex_35 sk_35_18 (fun Kn Kj => eq_icmp_ge_y (a := (0, ev_pc u x, 0)) (b := (0, 8, 0)) rfl rfl kn (ev_key_small (u := 8) (by decide)) (by omega)) ?_
      have he : ev_pc u x = ev_pc u 12 := by omega
      rw [he]
      exact ev_act_endG (v' := (0, ev_pc u 12, 0)) ha hcall hC ex_35 45 (fuel := 10) rfl
    · refine ev_act_step ha hcall hC ex_35 sk_35_18 (fun Kn Kj => eq_icmp_ge_n (a := (0, ev_pc u x, 0)) (b := (0, 8, 0)) rfl rfl kn (ev_key_small (u := 8) (by decide)) (by omega)) ?_
      refine ev_act_step ha hcall hC ex_35 sk_35_21 (fun Kn Kj => eq_iload (v := (0, u, 0)) rfl (Nat.zero_le _)) ?_
      refine ev_act_step ha hcall hC ex_35 sk_35_22 (fun Kn Kj => eq_iload (v := (0, x, 0)) rfl (Nat.zero_le _)) ?_
      have hci := ev_c1_ok (l := l) (d := 17) (k0 := 101) (as0 := [(0, u, 0), (0, x, 0)]) (ns0 := 14699) (nc0 := 133) (h0 := ev_zL) (r0 := ((0, (u / 2 ^ x) % 2, 0), 14699, 133, ev_zL)) (ev_none_ok l 17) (fun M hM => by have hM2 : M = ev_N101 := Option.some.inj (hM.symm.trans rfl); rw [hM2]; exact isIn_x l 16 hu (by omega) _ _ _)
      refine ev_act_step ha hci hC ex_35 sk_35_23 (fun Kn Kj => (eq_stat2 rfl ev_c1_at).trans (ev_back_yes rfl)) ?_
      have kb : Nat.mod (Nat.add ((u / 2 ^ x) % 2) 2147483648) 4294967296 = (u / 2 ^ x) % 2 + 2147483648 := ev_key_small (by omega)
      by_cases hz : (u / 2 ^ x) % 2 = 0
      · rw [hz] at hnext
        rw [Nat.add_zero] at hnext
        refine ev_act_jump ha hcall hC ex_35 sk_35_26 (fun Kn Kj => eq_ifc_eq_y (a := (0, (u / 2 ^ x) % 2, 0)) rfl kb (by omega)) ?_
        refine ev_act_step ha hcall hC ex_35 sk_35_39 (fun Kn Kj => eq_iinc (v := (0, x, 0)) rfl rfl (ev_add1 x (by omega))) ?_
        refine ev_act_jump ha hcall hC ex_35 sk_35_42 (fun Kn Kj => rfl) ?_
        have := ih (x + 1) (by omega)
        rw [hnext] at this
        exact this
      · have hb1 : (u / 2 ^ x) % 2 = 1 := by omega
        rw [hb1] at hnext
        refine ev_act_step ha hcall hC ex_35 sk_35_26 (fun Kn Kj => eq_ifc_eq_n (a := (0, (u / 2 ^ x) % 2, 0)) rfl kb (by omega)) ?_
        refine ev_act_step ha hcall hC ex_35 sk_35_29 (fun Kn Kj => eq_aload (v := (2, 59, 0)) rfl rfl) ?_
        refine ev_act_step ha hcall hC ex_35 sk_35_30 (fun Kn Kj => eq_getf (by decide) lm_z59 lm_z59m) ?_
        refine ev_act_step ha hcall hC ex_35 sk_35_33 (fun Kn Kj => eq_iload (v := (0, ev_pc u x, 0)) rfl (Nat.zero_le _)) ?_
        refine ev_act_step ha hcall hC ex_35 sk_35_34 (fun Kn Kj => eq_iload (v := (0, x, 0)) rfl (Nat.zero_le _)) ?_
        refine ev_act_step ha hcall hC ex_35 sk_35_35 (fun Kn Kj => eq_iast (i := (0, ev_pc u x, 0)) (v := (0, x, 0)) (by decide) lm_z62 (Nat.zero_le _) rfl (by show ev_pc u x < 65536; omega) (by rw [lm_z62l]; show ev_pc u x < 8; omega)) ?_
        refine ev_act_weakH (List.all_eq_true.mp (List.all_eq_true.mp lm_st (ev_pc u x) (List.mem_range.mpr (by omega))) x (List.mem_range.mpr (by omega))) ?_
        refine ev_act_step ha hcall hC ex_35 sk_35_36 (fun Kn Kj => eq_iinc (v := (0, ev_pc u x, 0)) rfl rfl (ev_add1 (ev_pc u x) (by omega))) ?_
        refine ev_act_step ha hcall hC ex_35 sk_35_39 (fun Kn Kj => eq_iinc (v := (0, x, 0)) rfl rfl (ev_add1 x (by omega))) ?_
        refine ev_act_jump ha hcall hC ex_35 sk_35_42 (fun Kn Kj => rfl) ?_
        have := ih (x + 1) (by omega)
        rw [hnext] at this
        exact this
theorem lm_met (l : Launch) {u : Nat} (hu : u < 4096) (h8 : ev_pc u 12 ≤ 8) : ev_Met l ev_N35 (17 + 1) [(2, 59, 0), (0, u, 0)] 14699 133 ev_zL ((0, ev_pc u 12, 0), 14699, 133, ev_zL) := by
  refine ev_Met_ofG (d := 17) (by decide +kernel) (Nat.le_of_ble_eq_true rfl) (by intro v hv; simp only [List.mem_cons, List.not_mem_nil, or_false] at hv; rcases hv with rfl | rfl <;> exact Nat.le_of_ble_eq_true rfl) ?_
  intro p e s m args below meth c D cA ads A Q ha
  have hC : ev_okL ev_MT ev_N35.1.cls (ev_N35.1.name == "<init>") ev_N35.2.2.2 ev_N35.2.1 evc_35 := ev_chk_ok _ ek_35
  have hcall := ev_none_ok l 17
  refine ev_act_step ha hcall hC ex_35 sk_35_0 (fun Kn Kj => rfl) ?_
  refine ev_act_step ha hcall hC ex_35 sk_35_1 (fun Kn Kj => eq_istore (Nat.le_of_ble_eq_true rfl) (Nat.zero_le _)) ?_
  refine ev_act_step ha hcall hC ex_35 sk_35_2 (fun Kn Kj => rfl) ?_
  refine ev_act_step ha hcall hC ex_35 sk_35_3 (fun Kn Kj => eq_istore (Nat.le_of_ble_eq_true rfl) (Nat.zero_le _)) ?_
  exact lm_head hu h8 ha 12 0 (by omega)
noncomputable def ev_fzB (x y : ev_C) : Bool := Bool.rec (motive := fun _ => Bool) (Bool.rec (motive := fun _ => Bool) false (ev_ceq y x) (Nat.blt x.1 54)) true (Nat.ble 60 x.1 && Nat.blt x.1 999)
theorem ev_veq_rf (v : ev_V) : ev_veq v v = true := by simp [ev_veq]
theorem ev_lle_rf : ∀ l : List ev_V, (∀ v ∈ l, ev_vl7 v v = true) → ev_lle ev_vl7 l l = true := by
  intro l
  induction l with
  | nil => intro _; rfl
  | cons x xs ih =>
    intro h
    show Bool.rec (motive := fun _ => Bool) false (ev_lle ev_vl7 xs xs) (ev_vl7 x x) = true
    rw [h x List.mem_cons_self]
    exact ih (fun v hv => h v (List.mem_cons_of_mem _ hv))
theorem ev_fzB_ok {x y : ev_C} (h : ev_fzB x y = true) (hl : ev_lle ev_vl7 x.2 x.2 = true) : ev_fzP x y y := by
  unfold ev_fzB at h
  cases h1 : (Nat.ble 60 x.1 && Nat.blt x.1 999) with
  | true =>
    rw [Bool.and_eq_true] at h1
    exact Or.inr (Or.inl ⟨Nat.le_of_ble_eq_true h1.1, Nat.le_of_ble_eq_true h1.2, rfl⟩)
  | false =>
    rw [h1] at h
    have h2 : Bool.rec (motive := fun _ => Bool) false (ev_ceq y x) (Nat.blt x.1 54) = true := h
    cases h3 : Nat.blt x.1 54 with
    | false => rw [h3] at h2; exact absurd h2 (by simp)
    | true =>
      rw [h3] at h2
      have h4 : ev_ceq y x = true := h2
      simp only [ev_ceq, Bool.and_eq_true] at h4
      have h5 : y = x := Prod.ext (Nat.eq_of_beq_eq_true h4.1) (ev_leq_ok h4.2)
      rw [h5]
      exact Or.inr (Or.inr ⟨Nat.le_of_ble_eq_true h3, rfl, hl, rfl⟩)
set_option maxRecDepth 1000000 in
theorem fz_zX : ∀ i, i < 133 → (ev_fzB (ev_hg ev_zL i) (ev_hg ev_zX i) && ev_lle ev_vl7 (ev_hg ev_zL i).2 (ev_hg ev_zL i).2) = true := by decide +kernel
set_option maxRecDepth 1000000 in
theorem ev_zL_pos : ∀ i, i < 133 → 60 ≤ (ev_hg ev_zL i).1 → (ev_hg ev_zL i).1 < 999 → ev_pos (ev_hg ev_zL i).1 = i := by decide +kernel
theorem lm_metX (l : Launch) {u : Nat} (hu : u < 4096) (h8 : ev_pc u 12 ≤ 8) : ev_Met l ev_N35 18 [(2, 59, 0), (0, u, 0)] 14699 133 ev_zX ((0, ev_pc u 12, 0), 14699, 133, ev_zX) :=
  ev_Met_fz (lm_met l hu h8) ev_pos ev_zL_pos (fun i hi => by
    have := fz_zX i hi
    rw [Bool.and_eq_true] at this
    exact ev_fzB_ok this.1 this.2)
set_option maxRecDepth 100000 in
theorem sk_34_0 : ev_seek evx_34 0 = (0, eo_aload 0) :: (1, eo_iload 1) :: evx_34.drop 2 := rfl
set_option maxRecDepth 100000 in
theorem sk_34_1 : ev_seek evx_34 1 = (1, eo_iload 1) :: (2, eo_virt 35 1 4) :: evx_34.drop 3 := rfl
set_option maxRecDepth 100000 in
theorem sk_34_2 : ev_seek evx_34 2 = (2, eo_virt 35 1 4) :: (5, eo_istore 2) :: evx_34.drop 4 := rfl
set_option maxRecDepth 100000 in
theorem sk_34_5 : ev_seek evx_34 5 = (5, eo_istore 2) :: (6, eo_push (0, 1, 0)) :: evx_34.drop 5 := rfl
set_option maxRecDepth 1000000 in
theorem co_t : Nat.beq (ev_hg ev_zX 59).1 4 = true := by decide +kernel
theorem co_met (l : Launch) {u : Nat} (hu : u < 4096) (h8 : ev_pc u 12 ≤ 8) : ev_Met l ev_N34 (18 + 1) [(2, 59, 0), (0, u, 0)] 14699 133 ev_zX ((0, ev_fact (ev_pc u 12), 0), 14699, 133, ev_zY) := by
  refine ev_Met_ofG (d := 18) (by decide +kernel) (Nat.le_of_ble_eq_true rfl) (by intro v hv; simp only [List.mem_cons, List.not_mem_nil, or_false] at hv; rcases hv with rfl | rfl <;> exact Nat.le_of_ble_eq_true rfl) ?_
  intro p e s m args below meth c D cA ads A Q ha
  have hC : ev_okL ev_MT ev_N34.1.cls (ev_N34.1.name == "<init>") ev_N34.2.2.2 ev_N34.2.1 evc_34 := ev_chk_ok _ ek_34
  have hcall := ev_c1_ok (l := l) (d := 18) (k0 := 35) (as0 := [(2, 59, 0), (0, u, 0)]) (ns0 := 14699) (nc0 := 133) (h0 := ev_zX) (r0 := ((0, ev_pc u 12, 0), 14699, 133, ev_zX)) (ev_none_ok l 18) (fun M hM => by have hM2 : M = ev_N35 := Option.some.inj (hM.symm.trans rfl); rw [hM2]; exact lm_metX l hu h8)
  refine ev_act_step ha hcall hC ex_34 sk_34_0 (fun Kn Kj => eq_aload (v := (2, 59, 0)) rfl rfl) ?_
  refine ev_act_step ha hcall hC ex_34 sk_34_1 (fun Kn Kj => eq_iload (v := (0, u, 0)) rfl (Nat.zero_le _)) ?_
  refine ev_act_step ha hcall hC ex_34 sk_34_2 (fun Kn Kj => (eq_virt1 rfl (by decide) co_t ev_c1_at).trans (ev_back_yes rfl)) ?_
  refine ev_act_step ha hcall hC ex_34 sk_34_5 (fun Kn Kj => eq_istore (Nat.le_of_ble_eq_true rfl) (Nat.zero_le _)) ?_
  generalize ev_pc u 12 = k at *
  refine ev_act_weakA (al' := [(2, 59, 0), (1, 0, 4294967295), (0, k, 0), (9, 0, 0), (9, 0, 0)]) ?_ ?_
  · show ev_lle ev_vl9 [(2, 59, 0), (1, 0, 4294967295), (0, k, 0), (9, 0, 0), (9, 0, 0)] [(2, 59, 0), (0, u, 0), (0, k, 0), (9, 0, 0), (9, 0, 0)] = true
    exact ev_lle_cons (by decide +kernel) (ev_lle_cons (ev_vle_top u 0) (ev_lle_cons (ev_vl9_0 k) (ev_lle_cons (by decide +kernel) (ev_lle_cons (by decide +kernel) ev_lle_nil))))
  · by_cases hk : k < 8
    · exact ev_act_paths ha (cl_y_ok l) hC ey_34 6 (bp := 9999) (fuel := 8000) (List.all_eq_true.mp pa_count k (List.mem_range.mpr hk))
    · have hk8 : k = 8 := by omega
      subst hk8
      exact ev_act_paths ha (cl_y_ok l) hC ey_34 6 (bp := 9999) (fuel := 8000) pa_count8
abbrev ev_N106 : ev_M := ((⟨"MeadowSigns", "isOpen", "(I)Z"⟩, prog_1_method_44_code, 2, some .boolean) : ev_M)
set_option maxRecDepth 100000 in
theorem sk_106_0 : ev_seek evx_106 0 = (0, eo_iload 1) :: (1, eo_aload 0) :: evx_106.drop 2 := rfl
set_option maxRecDepth 100000 in
theorem sk_106_1 : ev_seek evx_106 1 = (1, eo_aload 0) :: (2, eo_virt 105 0 9) :: evx_106.drop 3 := rfl
set_option maxRecDepth 100000 in
theorem sk_106_2 : ev_seek evx_106 2 = (2, eo_virt 105 0 9) :: (5, eo_push (0, 4294967295, 0)) :: evx_106.drop 4 := rfl
set_option maxRecDepth 100000 in
theorem sk_106_5 : ev_seek evx_106 5 = (5, eo_push (0, 4294967295, 0)) :: (6, eo_bin eb_xor) :: evx_106.drop 5 := rfl
set_option maxRecDepth 100000 in
theorem sk_106_6 : ev_seek evx_106 6 = (6, eo_bin eb_xor) :: (7, eo_bin eb_and) :: evx_106.drop 6 := rfl
set_option maxRecDepth 100000 in
theorem sk_106_7 : ev_seek evx_106 7 = (7, eo_bin eb_and) :: (8, eo_ifc .ne 15) :: evx_106.drop 7 := rfl
set_option maxRecDepth 100000 in
theorem sk_106_8 : ev_seek evx_106 8 = (8, eo_ifc .ne 15) :: (11, eo_push (0, 1, 0)) :: evx_106.drop 8 := rfl
set_option maxRecDepth 1000000 in
theorem io_oc : ev_isV (ev_exec ev_XT 2000 18 105 [(2, 0, 0)] 14699 133 ev_h0) (0, 4095, 0) 14699 133 ev_h0 = true := by decide +kernel
def ev_op (u : Nat) : Nat := if u < 4096 then 1 else 0
theorem open_x (l : Launch) {u : Nat} (hu : u < 4294967296) : ev_Met l ev_N106 (18 + 1) [(2, 0, 0), (0, u, 0)] 14699 133 ev_h0 ((0, ev_op u, 0), 14699, 133, ev_h0) := by
  refine ev_Met_ofG (d := 18) (by decide +kernel) (Nat.le_of_ble_eq_true rfl) (by intro v hv; simp only [List.mem_cons, List.not_mem_nil, or_false] at hv; rcases hv with rfl | rfl <;> exact Nat.le_of_ble_eq_true rfl) ?_
  intro p e s m args below meth c D cA ads A Q ha
  have hC : ev_okL ev_MT ev_N106.1.cls (ev_N106.1.name == "<init>") ev_N106.2.2.2 ev_N106.2.1 evc_106 := ev_chk_ok _ ek_106
  have hcall := ev_ex_ok l 2000 18
  refine ev_act_step ha hcall hC ex_106 sk_106_0 (fun Kn Kj => eq_iload (v := (0, u, 0)) rfl (Nat.zero_le _)) ?_
  refine ev_act_step ha hcall hC ex_106 sk_106_1 (fun Kn Kj => eq_aload (v := (2, 0, 0)) rfl rfl) ?_
  refine ev_act_step ha hcall hC ex_106 sk_106_2 (fun Kn Kj => (eq_virt0 rfl (by decide) fi_t0 (ev_isV_ok io_oc)).trans (ev_back_yes rfl)) ?_
  refine ev_act_step ha hcall hC ex_106 sk_106_5 (fun Kn Kj => rfl) ?_
  refine ev_act_step ha hcall hC ex_106 sk_106_6 (fun Kn Kj => eq_bin (a := (0, 4095, 0)) (b := (0, 4294967295, 0)) (w := 4294963200) rfl rfl (by decide +kernel)) ?_
  refine ev_act_step ha hcall hC ex_106 sk_106_7 (fun Kn Kj => eq_bin (a := (0, u, 0)) (b := (0, 4294963200, 0)) (w := u &&& 4294963200) rfl rfl (ar_and hu)) ?_
  by_cases hz : u < 4096
  · have hw : u &&& 4294963200 = 0 := (ar_land hu).mpr hz
    have ho : ev_op u = 1 := if_pos hz
    rw [ho] at ha
    rw [hw]
    refine ev_act_step ha hcall hC ex_106 sk_106_8 (fun Kn Kj => eq_ifc_ne_n (a := (0, 0, 0)) rfl (ev_key_small (u := 0) (by decide)) (by omega)) ?_
    exact ev_act_endG (v' := (0, 1, 0)) ha hcall hC ex_106 11 (fuel := 10) rfl
  · have hw : u &&& 4294963200 ≠ 0 := fun z => hz ((ar_land hu).mp z)
    have hlt : u &&& 4294963200 < 4294967296 := Nat.lt_of_le_of_lt Nat.and_le_left hu
    have ho : ev_op u = 0 := if_neg hz
    rw [ho] at ha
    generalize u &&& 4294963200 = w at *
    refine ev_act_jump ha hcall hC ex_106 sk_106_8 (fun Kn Kj => eq_ifc_ne_y (a := (0, w, 0)) rfl rfl (show (w + 2147483648) % 4294967296 ≠ 2147483648 by omega)) ?_
    exact ev_act_endG (v' := (0, 0, 0)) ha hcall hC ex_106 15 (fuel := 10) rfl
set_option maxRecDepth 1000000 in
theorem bc_all0 : (List.range 1024).all (fun j => ev_isV (ev_exec ev_XT 200 19 186 [(0, j + 0, 0)] 14699 133 ev_zA) (0, ev_pc (j + 0) 12, 0) 14699 133 ev_zA) = true := by decide +kernel
set_option maxRecDepth 1000000 in
theorem bc_all1 : (List.range 1024).all (fun j => ev_isV (ev_exec ev_XT 200 19 186 [(0, j + 1024, 0)] 14699 133 ev_zA) (0, ev_pc (j + 1024) 12, 0) 14699 133 ev_zA) = true := by decide +kernel
set_option maxRecDepth 1000000 in
theorem bc_all2 : (List.range 1024).all (fun j => ev_isV (ev_exec ev_XT 200 19 186 [(0, j + 2048, 0)] 14699 133 ev_zA) (0, ev_pc (j + 2048) 12, 0) 14699 133 ev_zA) = true := by decide +kernel
set_option maxRecDepth 1000000 in
theorem bc_all3 : (List.range 1024).all (fun j => ev_isV (ev_exec ev_XT 200 19 186 [(0, j + 3072, 0)] 14699 133 ev_zA) (0, ev_pc (j + 3072) 12, 0) 14699 133 ev_zA) = true := by decide +kernel
set_option maxRecDepth 1000000 in
theorem ev_zA_mark : ∀ i, i < 133 → 60 ≤ (ev_hg ev_zA i).1 ∧ (ev_hg ev_zA i).1 < 999 := by decide +kernel
theorem bc_x (l : Launch) {u : Nat} (hu : u < 4096) (h : ev_H) : ∀ M, ev_MT[186]? = some M → ev_Met l M 19 [(0, u, 0)] 14699 133 h ((0, ev_pc u 12, 0), 14699, 133, h) := by
  intro M hM
  have key : ev_exec ev_XT 200 19 186 [(0, u, 0)] 14699 133 ev_zA = some ((0, ev_pc u 12, 0), 14699, 133, ev_zA) := by
    by_cases h1 : u < 1024
    · exact ev_isV_ok (List.all_eq_true.mp bc_all0 u (List.mem_range.mpr h1))
    · by_cases h2 : u < 2048
      · have := ev_isV_ok (List.all_eq_true.mp bc_all1 (u - 1024) (List.mem_range.mpr (by omega)))
        rw [show u - 1024 + 1024 = u by omega] at this
        exact this
      · by_cases h3 : u < 3072
        · have := ev_isV_ok (List.all_eq_true.mp bc_all2 (u - 2048) (List.mem_range.mpr (by omega)))
          rw [show u - 2048 + 2048 = u by omega] at this
          exact this
        · have := ev_isV_ok (List.all_eq_true.mp bc_all3 (u - 3072) (List.mem_range.mpr (by omega)))
          rw [show u - 3072 + 3072 = u by omega] at this
          exact this
  exact ev_Met_fz (ev_ex_ok l 200 19 186 M hM _ _ _ _ _ key) ev_pos ev_zA_pos (fun i hi => Or.inr (Or.inl ⟨(ev_zA_mark i hi).1, (ev_zA_mark i hi).2, rfl⟩))
set_option maxRecDepth 1000000 in
theorem bs_all0 : (List.range 1024).all (fun j => ev_isV (ev_exec ev_XT 200 19 119 [(0, j + 0, 0)] 14699 133 ev_zA) (0, ev_pc (j + 0) 12, 0) 14699 133 ev_zA) = true := by decide +kernel
set_option maxRecDepth 1000000 in
theorem bs_all1 : (List.range 1024).all (fun j => ev_isV (ev_exec ev_XT 200 19 119 [(0, j + 1024, 0)] 14699 133 ev_zA) (0, ev_pc (j + 1024) 12, 0) 14699 133 ev_zA) = true := by decide +kernel
set_option maxRecDepth 1000000 in
theorem bs_all2 : (List.range 1024).all (fun j => ev_isV (ev_exec ev_XT 200 19 119 [(0, j + 2048, 0)] 14699 133 ev_zA) (0, ev_pc (j + 2048) 12, 0) 14699 133 ev_zA) = true := by decide +kernel
set_option maxRecDepth 1000000 in
theorem bs_all3 : (List.range 1024).all (fun j => ev_isV (ev_exec ev_XT 200 19 119 [(0, j + 3072, 0)] 14699 133 ev_zA) (0, ev_pc (j + 3072) 12, 0) 14699 133 ev_zA) = true := by decide +kernel
theorem bs_x (l : Launch) {u : Nat} (hu : u < 4096) (h : ev_H) : ∀ M, ev_MT[119]? = some M → ev_Met l M 19 [(0, u, 0)] 14699 133 h ((0, ev_pc u 12, 0), 14699, 133, h) := by
  intro M hM
  have key : ev_exec ev_XT 200 19 119 [(0, u, 0)] 14699 133 ev_zA = some ((0, ev_pc u 12, 0), 14699, 133, ev_zA) := by
    by_cases h1 : u < 1024
    · have := ev_isV_ok (List.all_eq_true.mp bs_all0 u (List.mem_range.mpr h1))
      exact this
    · by_cases h2 : u < 2048
      · have := ev_isV_ok (List.all_eq_true.mp bs_all1 (u - 1024) (List.mem_range.mpr (by omega)))
        rw [show u - 1024 + 1024 = u by omega] at this
        exact this
      · by_cases h3 : u < 3072
        · have := ev_isV_ok (List.all_eq_true.mp bs_all2 (u - 2048) (List.mem_range.mpr (by omega)))
          rw [show u - 2048 + 2048 = u by omega] at this
          exact this
        · have := ev_isV_ok (List.all_eq_true.mp bs_all3 (u - 3072) (List.mem_range.mpr (by omega)))
          rw [show u - 3072 + 3072 = u by omega] at this
          exact this
  exact ev_Met_fz (ev_ex_ok l 200 19 119 M hM _ _ _ _ _ key) ev_pos ev_zA_pos (fun i hi => Or.inr (Or.inl ⟨(ev_zA_mark i hi).1, (ev_zA_mark i hi).2, rfl⟩))
abbrev ev_N86 : ev_M := ((⟨"MeadowSigns", "orders", "(I)I"⟩, prog_1_method_23_code, 2, some .int) : ev_M)
set_option maxRecDepth 100000 in
theorem sk_86_0 : ev_seek evx_86 0 = (0, eo_aload 0) :: (1, eo_getf 9 3) :: evx_86.drop 2 := rfl
set_option maxRecDepth 100000 in
theorem sk_86_1 : ev_seek evx_86 1 = (1, eo_getf 9 3) :: (4, eo_virt 24 0 4) :: evx_86.drop 3 := rfl
set_option maxRecDepth 100000 in
theorem sk_86_4 : ev_seek evx_86 4 = (4, eo_virt 24 0 4) :: (7, eo_aload 0) :: evx_86.drop 4 := rfl
set_option maxRecDepth 100000 in
theorem sk_86_7 : ev_seek evx_86 7 = (7, eo_aload 0) :: (8, eo_iload 1) :: evx_86.drop 5 := rfl
set_option maxRecDepth 100000 in
theorem sk_86_8 : ev_seek evx_86 8 = (8, eo_iload 1) :: (9, eo_virt 106 1 9) :: evx_86.drop 6 := rfl
set_option maxRecDepth 100000 in
theorem sk_86_9 : ev_seek evx_86 9 = (9, eo_virt 106 1 9) :: (12, eo_ifc .eq 24) :: evx_86.drop 7 := rfl
set_option maxRecDepth 100000 in
theorem sk_86_12 : ev_seek evx_86 12 = (12, eo_ifc .eq 24) :: (15, eo_iload 1) :: evx_86.drop 8 := rfl
set_option maxRecDepth 100000 in
theorem sk_86_15 : ev_seek evx_86 15 = (15, eo_iload 1) :: (16, eo_stat 186 1) :: evx_86.drop 9 := rfl
set_option maxRecDepth 100000 in
theorem sk_86_16 : ev_seek evx_86 16 = (16, eo_stat 186 1) :: (19, eo_push (0, 8, 0)) :: evx_86.drop 10 := rfl
set_option maxRecDepth 100000 in
theorem sk_86_19 : ev_seek evx_86 19 = (19, eo_push (0, 8, 0)) :: (21, eo_icmp .le 26) :: evx_86.drop 11 := rfl
set_option maxRecDepth 100000 in
theorem sk_86_21 : ev_seek evx_86 21 = (21, eo_icmp .le 26) :: (24, eo_push (0, 4294967295, 0)) :: evx_86.drop 12 := rfl
set_option maxRecDepth 100000 in
theorem sk_86_26 : ev_seek evx_86 26 = (26, eo_aload 0) :: (27, eo_getf 9 3) :: evx_86.drop 15 := rfl
set_option maxRecDepth 100000 in
theorem sk_86_27 : ev_seek evx_86 27 = (27, eo_getf 9 3) :: (30, eo_aload 0) :: evx_86.drop 16 := rfl
set_option maxRecDepth 100000 in
theorem sk_86_30 : ev_seek evx_86 30 = (30, eo_aload 0) :: (31, eo_getf 9 0) :: evx_86.drop 17 := rfl
set_option maxRecDepth 100000 in
theorem sk_86_31 : ev_seek evx_86 31 = (31, eo_getf 9 0) :: (34, eo_aload 0) :: evx_86.drop 18 := rfl
set_option maxRecDepth 100000 in
theorem sk_86_34 : ev_seek evx_86 34 = (34, eo_aload 0) :: (35, eo_getf 9 1) :: evx_86.drop 19 := rfl
set_option maxRecDepth 100000 in
theorem sk_86_35 : ev_seek evx_86 35 = (35, eo_getf 9 1) :: (38, eo_virt 27 2 4) :: evx_86.drop 20 := rfl
set_option maxRecDepth 100000 in
theorem sk_86_38 : ev_seek evx_86 38 = (38, eo_virt 27 2 4) :: (41, eo_aload 0) :: evx_86.drop 21 := rfl
set_option maxRecDepth 100000 in
theorem sk_86_41 : ev_seek evx_86 41 = (41, eo_aload 0) :: (42, eo_getf 9 3) :: evx_86.drop 22 := rfl
set_option maxRecDepth 100000 in
theorem sk_86_42 : ev_seek evx_86 42 = (42, eo_getf 9 3) :: (45, eo_iload 1) :: evx_86.drop 23 := rfl
set_option maxRecDepth 100000 in
theorem sk_86_45 : ev_seek evx_86 45 = (45, eo_iload 1) :: (46, eo_virt 34 1 4) :: evx_86.drop 24 := rfl
set_option maxRecDepth 100000 in
theorem sk_86_46 : ev_seek evx_86 46 = (46, eo_virt 34 1 4) :: (49, eo_iret 0) :: evx_86.drop 25 := rfl
noncomputable def ev_zB : ev_H := ((((((((((9, [(2, 1, 0), (2, 36, 0), (2, 47, 0), (2, 59, 0), (2, 44, 0), (2, 77, 0), (2, 40, 0), (2, 33, 0), (2, 17, 0)]), (50, List.replicate 30 (0, 0, 0))), ((50, [(0, 0, 0), (0, 0, 0), (0, 0, 0)]), (99, []))), (((50, List.replicate 31 (0, 0, 0)), (99, [])), ((50, [(0, 0, 0), (0, 0, 0), (0, 0, 0), (0, 0, 0), (0, 0, 0), (0, 0, 0), (0, 0, 0), (0, 0, 0), (0, 0, 0), (0, 0, 0), (0, 0, 0), (0, 0, 0), (0, 0, 0), (0, 0, 0), (0, 0, 0), (0, 0, 0)]), (99, [])))), ((((50, List.replicate 31 (0, 0, 0)), (99, [])), ((50, List.replicate 30 (0, 0, 0)), (99, []))), (((50, List.replicate 160 (0, 0, 0)), (99, [])), ((50, [(0, 4294967295, 0), (0, 4294967295, 0), (0, 4294967295, 0), (0, 4294967295, 0), (0, 4294967295, 0), (0, 4294967295, 0), (0, 4294967295, 0), (0, 4294967295, 0), (0, 4294967295, 0), (0, 4294967295, 0), (0, 4294967295, 0), (0, 4294967295, 0), (0, 4294967295, 0), (0, 4294967295, 0), (0, 4294967295, 0), (0, 4294967295, 0), (0, 4294967295, 0), (0, 4294967295, 0), (0, 4294967295, 0), (0, 4294967295, 0), (0, 0, 0), (0, 0, 0), (0, 0, 0), (0, 0, 0), (0, 0, 0), (0, 0, 0)]), (99, []))))), (((((50, [(0, 0, 0), (0, 0, 0), (0, 0, 0), (0, 0, 0), (0, 0, 0), (0, 0, 0), (0, 0, 0), (0, 0, 0)]), (99, [])), ((50, List.replicate 116 (0, 0, 0) ++ [(0, 1, 0)] ++ List.replicate 72 (0, 0, 0)), (99, []))), (((6, [(0, 0, 0), (0, 0, 0), (0, 0, 0), (2, 42, 0), (2, 41, 0), (2, 43, 0)]), (99, [])), ((52, [(0, 0, 0), (0, 0, 0), (0, 0, 0), (0, 0, 0)]), (99, [])))), ((((50, [(0, 0, 0), (0, 0, 0), (0, 0, 0), (0, 0, 0), (0, 0, 0), (0, 0, 0), (0, 0, 0), (0, 0, 0)]), (99, [])), ((50, [(0, 0, 0), (0, 0, 0)]), (99, []))), (((50, [(0, 0, 0), (0, 0, 0), (0, 0, 0), (0, 0, 0), (0, 0, 0), (0, 0, 0), (0, 0, 0), (0, 0, 0)]), (99, [])), ((50, List.replicate 26 (0, 0, 0)), (99, [])))))), ((((((53, [(4, 0, 0), (4, 0, 0), (4, 0, 0), (4, 0, 0), (4, 0, 0), (4, 0, 0), (4, 0, 0), (4, 0, 0)]), (52, [(0, 0, 0), (0, 0, 0), (0, 0, 0)])), ((50, [(0, 0, 0), (0, 0, 0), (0, 0, 0), (0, 0, 0), (0, 0, 0), (0, 0, 0), (0, 0, 0), (0, 0, 0), (0, 0, 0), (0, 0, 0), (0, 0, 0), (0, 0, 0), (0, 12, 0), (0, 0, 0), (0, 0, 0), (0, 0, 0), (0, 0, 0), (0, 0, 0), (0, 0, 0), (0, 0, 0), (0, 0, 0)]), (99, []))), (((6, [(0, 0, 0), (0, 0, 0), (0, 0, 0), (2, 38, 0), (2, 37, 0), (2, 39, 0)]), (99, [])), ((50, [(0, 0, 0), (0, 0, 0), (0, 0, 0), (0, 0, 0), (0, 0, 0), (0, 0, 0), (0, 0, 0), (0, 0, 0), (0, 0, 0), (0, 0, 0), (0, 0, 0), (0, 0, 0), (0, 0, 0), (0, 0, 0), (0, 0, 0), (0, 0, 0)]), (99, [])))), ((((53, [(4, 0, 0), (4, 0, 0), (4, 0, 0), (4, 0, 0), (4, 0, 0), (4, 0, 0), (4, 0, 0), (4, 0, 0)]), (99, [])), ((51, List.replicate 1620 (0, 0, 0)), (99, []))), (((50, List.replicate 189 (0, 0, 0)), (99, [])), ((50, [(0, 0, 0), (0, 0, 0), (0, 0, 0), (0, 0, 0), (0, 0, 0), (0, 0, 0), (0, 0, 0), (0, 0, 0), (0, 0, 0), (0, 0, 0), (0, 0, 0), (0, 0, 0), (0, 0, 0), (0, 0, 0), (0, 0, 0), (0, 0, 0), (0, 0, 0), (0, 0, 0), (0, 0, 0), (0, 0, 0)]), (99, []))))), (((((50, List.replicate 300 (0, 0, 0)), (99, [])), ((50, [(0, 0, 0), (0, 0, 0), (0, 0, 0), (0, 0, 0), (0, 0, 0), (0, 0, 0), (0, 0, 0), (0, 0, 0), (0, 0, 0), (0, 0, 0), (0, 0, 0), (0, 0, 0), (0, 0, 0), (0, 0, 0), (0, 0, 0), (0, 0, 0), (0, 0, 0), (0, 0, 0), (0, 0, 0), (0, 0, 0)]), (99, []))), (((2, [(0, 0, 0), (2, 45, 0), (0, 0, 0), (0, 0, 0), (2, 46, 0), (0, 0, 0)]), (99, [])), ((50, List.replicate 1120 (0, 0, 0)), (99, [])))), ((((50, List.replicate 300 (0, 0, 0)), (99, [])), ((50, [(0, 0, 0), (0, 0, 0)]), (99, []))), (((50, [(0, 0, 0), (0, 0, 0), (0, 0, 0), (0, 0, 0), (0, 0, 0), (0, 0, 0), (0, 0, 0), (0, 0, 0), (0, 0, 0), (0, 0, 0), (0, 0, 0), (0, 0, 0), (0, 0, 0), (0, 0, 0), (0, 0, 0), (0, 0, 0), (0, 0, 0), (0, 0, 0), (0, 0, 0), (0, 0, 0)]), (99, [])), ((50, [(0, 0, 0), (0, 0, 0), (0, 0, 0)]), (99, []))))))), (((((((53, [(4, 0, 0), (4, 0, 0), (4, 0, 0), (4, 0, 0)]), (50, [(0, 0, 0), (0, 0, 0), (0, 0, 0), (0, 0, 0), (0, 0, 0), (0, 0, 0), (0, 0, 0), (0, 0, 0), (0, 0, 0), (0, 0, 0), (0, 0, 0), (0, 0, 0), (0, 0, 0), (0, 0, 0), (0, 0, 0), (0, 0, 0)])), ((50, List.replicate 160 (0, 0, 0)), (99, []))), (((7, [(0, 0, 0), (2, 35, 0), (0, 0, 0), (0, 0, 0), (0, 0, 0), (0, 0, 0), (4, 0, 0), (0, 0, 0)]), (99, [])), ((50, [(0, 0, 0), (0, 0, 0), (0, 0, 0), (0, 0, 0), (0, 0, 0), (0, 0, 0), (0, 0, 0), (0, 0, 0), (0, 0, 0), (0, 0, 0), (0, 0, 0), (0, 0, 0), (0, 0, 0), (0, 0, 0), (0, 0, 0), (0, 0, 0)]), (99, [])))), ((((53, [(4, 0, 0), (4, 0, 0), (4, 0, 0), (4, 0, 0)]), (99, [])), ((50, [(0, 0, 0), (0, 0, 0), (0, 0, 0), (0, 0, 0), (0, 0, 0), (0, 0, 0), (0, 0, 0), (0, 0, 0), (0, 0, 0), (0, 0, 0), (0, 0, 0), (0, 0, 0), (0, 0, 0), (0, 0, 0), (0, 0, 0), (0, 0, 0)]), (99, []))), (((50, [(0, 0, 0), (0, 0, 0), (0, 0, 0), (0, 0, 0), (0, 0, 0), (0, 0, 0), (0, 0, 0), (0, 0, 0), (0, 0, 0), (0, 0, 0), (0, 0, 0), (0, 0, 0), (0, 0, 0), (0, 0, 0), (0, 0, 0), (0, 0, 0), (0, 0, 0), (0, 0, 0), (0, 0, 0), (0, 0, 0), (0, 0, 0)]), (99, [])), ((50, List.replicate 189 (0, 0, 0)), (99, []))))), (((((50, [(0, 0, 0), (0, 0, 0), (0, 0, 0), (0, 0, 0), (0, 0, 0), (0, 0, 0), (0, 0, 0), (0, 0, 0)]), (99, [])), ((50, [(0, 0, 0), (0, 0, 0), (0, 0, 0), (0, 0, 0), (0, 0, 0), (0, 0, 0), (0, 0, 0), (0, 0, 0)]), (99, []))), (((50, [(0, 0, 0), (0, 0, 0), (0, 0, 0), (0, 0, 0), (0, 0, 0), (0, 0, 0), (0, 0, 0), (0, 0, 0), (0, 0, 0), (0, 0, 0), (0, 0, 0), (0, 0, 0), (0, 0, 0), (0, 0, 0), (0, 0, 0), (0, 0, 0), (0, 0, 0), (0, 0, 0), (0, 0, 0), (0, 0, 0)]), (99, [])), ((53, [(4, 0, 0), (4, 0, 0), (4, 0, 0), (4, 0, 0), (4, 0, 0), (4, 0, 0), (4, 0, 0), (4, 0, 0), (4, 0, 0), (4, 0, 0), (4, 0, 0), (4, 0, 0), (4, 0, 0), (4, 0, 0), (4, 0, 0), (4, 0, 0)]), (99, [])))), ((((50, [(0, 0, 0), (0, 0, 0), (0, 0, 0), (0, 0, 0), (0, 0, 0), (0, 0, 0), (0, 0, 0), (0, 0, 0)]), (99, [])), ((50, [(0, 0, 0), (0, 0, 0)]), (99, []))), (((50, [(0, 0, 0), (0, 0, 0), (0, 0, 0), (0, 0, 0), (0, 0, 0), (0, 0, 0), (0, 0, 0), (0, 0, 0), (0, 0, 0), (0, 0, 0), (0, 0, 0), (0, 0, 0), (0, 0, 0), (0, 0, 0), (0, 0, 0), (0, 0, 0), (0, 0, 0), (0, 0, 0), (0, 0, 0), (0, 0, 0)]), (99, [])), ((50, [(0, 0, 0), (0, 0, 0), (0, 0, 0), (0, 0, 0), (0, 0, 0), (0, 0, 0), (0, 0, 0), (0, 0, 0)]), (99, [])))))), ((((((50, [(0, 0, 0), (0, 0, 0), (0, 0, 0), (0, 0, 0), (0, 0, 0), (0, 0, 0), (0, 0, 0), (0, 0, 0)]), (99, [])), ((50, List.replicate 189 (0, 0, 0)), (99, []))), (((50, [(0, 0, 0), (0, 0, 0), (0, 0, 0), (0, 0, 0), (0, 0, 0), (0, 0, 0), (0, 0, 0), (0, 0, 0), (0, 0, 0), (0, 0, 0), (0, 0, 0), (0, 0, 0), (0, 0, 0), (0, 0, 0), (0, 0, 0), (0, 0, 0), (0, 0, 0), (0, 0, 0), (0, 0, 0), (0, 0, 0)]), (99, [])), ((50, [(0, 0, 0), (0, 0, 0), (0, 0, 0), (0, 0, 0)]), (99, [])))), ((((50, [(0, 0, 0), (0, 0, 0), (0, 0, 0), (0, 0, 0), (0, 0, 0), (0, 0, 0), (0, 0, 0), (0, 0, 0)]), (99, [])), ((50, [(0, 12, 0), (0, 0, 0)]), (99, []))), (((50, List.replicate 189 (0, 0, 0)), (99, [])), ((50, List.replicate 1066 (0, 0, 0)), (99, []))))), (((((0, [(2, 15, 0), (2, 16, 0), (0, 0, 0), (0, 0, 0)]), (99, [])), ((50, List.replicate 30 (0, 0, 0)), (99, []))), (((50, List.replicate 81 (0, 0, 0)), (99, [])), ((50, List.replicate 90 (0, 0, 0)), (99, [])))), ((((0, [(2, 31, 0), (2, 32, 0), (0, 0, 0), (0, 0, 0)]), (99, [])), ((50, [(0, 0, 0), (0, 0, 0)]), (99, []))), (((50, [(0, 0, 0), (0, 0, 0), (0, 0, 0), (0, 0, 0), (0, 0, 0), (0, 0, 0), (0, 0, 0), (0, 0, 0)]), (99, [])), ((50, List.replicate 30 (0, 0, 0)), (99, [])))))))), ((((((((8, [(0, 12, 0), (0, 0, 0), (0, 0, 0), (2, 3, 0), (2, 9, 0), (2, 10, 0), (0, 0, 0), (0, 0, 0), (0, 0, 0), (0, 0, 0), (2, 11, 0), (2, 14, 0), (2, 2, 0), (2, 4, 0), (2, 5, 0), (2, 6, 0), (2, 7, 0), (2, 8, 0)]), (50, List.replicate 30 (0, 0, 0))), ((5, [(2, 68, 0), (0, 0, 0), (2, 69, 0), (2, 72, 0), (2, 1, 0), (2, 70, 0), (0, 1, 0), (2, 67, 0), (0, 0, 0), (2, 71, 0), (2, 66, 0), (2, 73, 0), (2, 74, 0), (2, 75, 0), (2, 76, 0)]), (99, []))), (((3, [(2, 34, 0), (2, 17, 0), (0, 0, 0), (0, 0, 0), (0, 0, 0), (0, 0, 0), (0, 0, 0), (0, 4294967295, 0)]), (99, [])), ((50, [(0, 0, 0), (0, 0, 0), (0, 0, 0), (0, 0, 0), (0, 0, 0), (0, 0, 0), (0, 0, 0), (0, 0, 0), (0, 0, 0), (0, 0, 0), (0, 0, 0), (0, 0, 0), (0, 0, 0), (0, 0, 0), (0, 0, 0), (0, 0, 0)]), (99, [])))), ((((8, [(0, 12, 0), (0, 0, 0), (0, 0, 0), (2, 19, 0), (2, 25, 0), (2, 26, 0), (0, 0, 0), (0, 0, 0), (0, 0, 0), (0, 0, 0), (2, 27, 0), (2, 30, 0), (2, 18, 0), (2, 20, 0), (2, 21, 0), (2, 22, 0), (2, 23, 0), (2, 24, 0)]), (99, [])), ((50, List.replicate 30 (0, 0, 0)), (99, []))), (((50, [(0, 0, 0), (0, 0, 0), (0, 0, 0), (0, 0, 0), (0, 0, 0), (0, 0, 0)]), (99, [])), ((50, List.replicate 160 (0, 0, 0)), (99, []))))), (((((50, [(0, 0, 0), (0, 0, 0), (0, 0, 0), (0, 0, 0), (0, 0, 0), (0, 0, 0), (0, 0, 0), (0, 0, 0)]), (99, [])), ((50, [(0, 0, 0), (0, 0, 0), (0, 0, 0), (0, 0, 0), (0, 0, 0), (0, 0, 0), (0, 0, 0), (0, 0, 0)]), (99, []))), (((50, [(0, 0, 0), (0, 0, 0), (0, 0, 0), (0, 0, 0)]), (99, [])), ((53, [(4, 0, 0), (4, 0, 0), (4, 0, 0), (4, 0, 0), (4, 0, 0), (4, 0, 0), (4, 0, 0), (4, 0, 0)]), (99, [])))), ((((50, [(0, 0, 0), (0, 0, 0), (0, 0, 0), (0, 0, 0), (0, 0, 0), (0, 0, 0), (0, 0, 0), (0, 0, 0)]), (99, [])), ((50, [(0, 0, 0), (0, 0, 0)]), (99, []))), (((50, [(0, 0, 0), (0, 0, 0), (0, 0, 0), (0, 0, 0), (0, 0, 0), (0, 0, 0), (0, 0, 0), (0, 0, 0), (0, 0, 0), (0, 0, 0), (0, 0, 0), (0, 0, 0), (0, 0, 0), (0, 0, 0), (0, 0, 0), (0, 0, 0), (0, 0, 0), (0, 0, 0), (0, 0, 0), (0, 0, 0)]), (99, [])), ((50, [(0, 0, 0), (0, 0, 0), (0, 0, 0), (0, 0, 0), (0, 0, 0), (0, 0, 0), (0, 0, 0), (0, 0, 0), (0, 0, 0), (0, 0, 0), (0, 0, 0), (0, 0, 0), (0, 0, 0), (0, 0, 0), (0, 0, 0), (0, 0, 0), (0, 0, 0), (0, 0, 0), (0, 0, 0), (0, 0, 0)]), (99, [])))))), ((((((50, [(0, 0, 0), (0, 0, 0), (0, 0, 0), (0, 0, 0), (0, 0, 0), (0, 0, 0), (0, 0, 0), (0, 0, 0)]), (99, [])), ((50, [(0, 0, 0), (0, 0, 0), (0, 0, 0), (0, 0, 0), (0, 0, 0), (0, 0, 0), (0, 0, 0), (0, 0, 0), (0, 0, 0), (0, 0, 0), (0, 0, 0), (0, 0, 0), (0, 0, 0), (0, 0, 0), (0, 0, 0), (0, 0, 0), (0, 0, 0), (0, 0, 0), (0, 0, 0), (0, 0, 0), (0, 0, 0)]), (99, []))), (((50, [(0, 0, 0), (0, 0, 0), (0, 0, 0), (0, 0, 0)]), (99, [])), ((50, [(0, 0, 0), (0, 0, 0), (0, 0, 0), (0, 0, 0)]), (99, [])))), ((((50, [(0, 0, 0), (0, 0, 0), (0, 0, 0), (0, 0, 0), (0, 0, 0), (0, 0, 0), (0, 0, 0), (0, 0, 0)]), (99, [])), ((51, List.replicate 1600 (0, 0, 0)), (99, []))), (((50, List.replicate 189 (0, 0, 0)), (99, [])), ((50, [(0, 0, 0), (0, 0, 0), (0, 0, 0), (0, 0, 0), (0, 0, 0), (0, 0, 0), (0, 0, 0), (0, 0, 0), (0, 0, 0), (0, 0, 0), (0, 0, 0), (0, 0, 0), (0, 0, 0), (0, 0, 0), (0, 0, 0), (0, 0, 0), (0, 0, 0), (0, 0, 0), (0, 0, 0), (0, 0, 0)]), (99, []))))), (((((50, List.replicate 31 (0, 0, 0)), (99, [])), ((1, [(2, 82, 0), (0, 0, 0), (0, 0, 0), (0, 0, 0), (2, 78, 0), (2, 79, 0), (2, 80, 0), (2, 81, 0)]), (99, []))), (((50, List.replicate 1107 (0, 0, 0)), (99, [])), ((50, List.replicate 90 (0, 0, 0)), (99, [])))), ((((50, List.replicate 31 (0, 0, 0)), (99, [])), ((50, [(0, 0, 0), (0, 0, 0)]), (99, []))), (((50, [(0, 0, 0), (0, 0, 0), (0, 0, 0), (0, 0, 0), (0, 0, 0), (0, 0, 0), (0, 0, 0), (0, 0, 0), (0, 0, 0), (0, 0, 0), (0, 0, 0), (0, 0, 0), (0, 0, 0), (0, 0, 0), (0, 0, 0), (0, 0, 0), (0, 0, 0), (0, 0, 0), (0, 0, 0), (0, 0, 0)]), (99, [])), ((50, [(0, 0, 0), (0, 0, 0), (0, 0, 0)]), (99, []))))))), (((((((50, [(0, 0, 0), (0, 0, 0), (0, 0, 0), (0, 0, 0)]), (50, List.replicate 78 (0, 0, 0))), ((50, [(0, 0, 0), (0, 0, 0), (0, 0, 0), (0, 0, 0), (0, 0, 0), (0, 0, 0)]), (99, []))), (((51, List.replicate 1600 (0, 0, 0)), (99, [])), ((50, [(0, 0, 0), (0, 0, 0), (0, 0, 0), (0, 0, 0), (0, 0, 0), (0, 0, 0), (0, 0, 0), (0, 0, 0), (0, 0, 0), (0, 0, 0), (0, 0, 0), (0, 0, 0), (0, 0, 0), (0, 0, 0), (0, 0, 0), (0, 0, 0)]), (99, [])))), ((((50, [(0, 0, 0), (0, 0, 0), (0, 0, 0), (0, 0, 0)]), (99, [])), ((10, [(0, 0, 0), (2, 88, 0), (2, 115, 0), (2, 114, 0), (2, 86, 0), (2, 112, 0), (0, 0, 0), (2, 118, 0), (2, 120, 0), (2, 131, 0), (2, 91, 0), (0, 0, 0), (2, 123, 0), (0, 0, 0), (0, 0, 0), (2, 87, 0), (2, 84, 0), (2, 122, 0), (2, 100, 0), (2, 132, 0), (0, 0, 0), (0, 0, 0), (0, 0, 0), (0, 0, 0), (0, 0, 0), (2, 93, 0), (2, 104, 0), (0, 0, 0), (2, 89, 0), (2, 92, 0), (2, 119, 0), (2, 90, 0), (2, 94, 0), (2, 103, 0), (0, 0, 0), (0, 0, 0), (0, 4294967295, 0), (0, 0, 0), (0, 0, 0), (0, 0, 0), (2, 85, 0), (0, 0, 0), (4, 0, 0), (2, 95, 0), (2, 96, 0), (2, 97, 0), (2, 98, 0), (2, 99, 0), (2, 101, 0), (2, 102, 0), (2, 105, 0), (2, 106, 0), (2, 107, 0), (2, 108, 0), (2, 109, 0), (2, 110, 0), (2, 111, 0), (0, 0, 0), (0, 0, 0), (0, 0, 0), (0, 0, 0), (0, 0, 0), (0, 0, 0), (0, 0, 0), (0, 0, 0), (0, 0, 0), (2, 113, 0), (2, 116, 0), (2, 117, 0), (2, 121, 0), (0, 0, 0), (0, 0, 0), (2, 124, 0), (2, 125, 0), (0, 0, 0), (2, 126, 0), (2, 127, 0), (2, 128, 0), (2, 129, 0), (2, 130, 0)]), (99, []))), (((50, [(0, 0, 0), (0, 0, 0), (0, 0, 0), (0, 0, 0), (0, 0, 0), (0, 0, 0), (0, 0, 0), (0, 0, 0), (0, 0, 0), (0, 0, 0), (0, 0, 0), (0, 0, 0), (0, 0, 0), (0, 0, 0), (0, 0, 0), (0, 0, 0), (0, 0, 0), (0, 0, 0), (0, 0, 0), (0, 0, 0), (0, 0, 0)]), (99, [])), ((50, List.replicate 189 (0, 0, 0)), (99, []))))), (((((0, [(2, 12, 0), (2, 13, 0), (0, 1, 0), (0, 0, 0)]), (99, [])), ((50, [(0, 0, 0), (0, 0, 0), (0, 0, 0), (0, 0, 0), (0, 0, 0), (0, 0, 0), (0, 0, 0), (0, 0, 0), (0, 0, 0), (0, 0, 0), (0, 0, 0), (0, 0, 0), (0, 0, 0), (0, 0, 0), (0, 0, 0), (0, 0, 0), (0, 0, 0), (0, 0, 0), (0, 0, 0), (0, 0, 0)]), (99, []))), (((50, [(0, 0, 0), (0, 0, 0), (0, 0, 0), (0, 0, 0), (0, 0, 0), (0, 0, 0)]), (99, [])), ((50, List.replicate 1120 (0, 0, 0)), (99, [])))), ((((0, [(2, 28, 0), (2, 29, 0), (0, 1, 0), (0, 0, 0)]), (99, [])), ((50, [(0, 0, 0), (0, 0, 0)]), (99, []))), (((4, [(2, 65, 0), (2, 63, 0), (2, 1, 0), (0, 0, 0), (2, 62, 0), (0, 4095, 0), (0, 0, 0), (2, 60, 0), (0, 0, 0), (0, 4294967295, 0), (0, 0, 0), (2, 61, 0), (2, 64, 0), (0, 0, 0)]), (99, [])), ((50, List.replicate 256 (0, 0, 0)), (99, [])))))), ((((((50, [(0, 0, 0), (0, 0, 0), (0, 0, 0), (0, 0, 0), (0, 0, 0), (0, 0, 0), (0, 0, 0), (0, 0, 0)]), (99, [])), ((50, List.replicate 189 (0, 0, 0)), (99, []))), (((50, [(0, 0, 0), (0, 0, 0), (0, 0, 0), (0, 0, 0), (0, 0, 0), (0, 0, 0)]), (99, [])), ((52, [(0, 0, 0), (0, 0, 0)]), (99, [])))), ((((50, [(0, 0, 0), (0, 0, 0), (0, 0, 0), (0, 0, 0), (0, 0, 0), (0, 0, 0), (0, 0, 0), (0, 0, 0)]), (99, [])), ((50, [(0, 0, 0), (0, 0, 0)]), (99, []))), (((50, [(0, 0, 0), (0, 0, 0), (0, 0, 0), (0, 0, 0), (0, 0, 0), (0, 0, 0), (0, 0, 0), (0, 0, 0)]), (99, [])), ((50, [(0, 0, 0), (0, 0, 0), (0, 0, 0), (0, 0, 0), (0, 0, 0), (0, 0, 0), (0, 0, 0), (0, 0, 0), (0, 0, 0), (0, 0, 0), (0, 0, 0), (0, 0, 0), (0, 0, 0), (0, 0, 0), (0, 0, 0), (0, 0, 0), (0, 0, 0), (0, 0, 0), (0, 0, 0), (0, 0, 0)]), (99, []))))), (((((50, List.replicate 300 (0, 0, 0)), (99, [])), ((52, List.replicate 30 (0, 0, 0)), (99, []))), (((5, [(2, 50, 0), (0, 0, 0), (2, 51, 0), (2, 54, 0), (2, 1, 0), (2, 52, 0), (0, 1, 0), (2, 49, 0), (0, 0, 0), (2, 53, 0), (2, 48, 0), (2, 55, 0), (2, 56, 0), (2, 57, 0), (2, 58, 0)]), (99, [])), ((50, List.replicate 60 (0, 0, 0)), (99, [])))), ((((50, List.replicate 300 (0, 0, 0)), (99, [])), ((50, [(0, 0, 0), (0, 0, 0), (0, 0, 0), (0, 0, 0), (0, 0, 0), (0, 0, 0), (0, 0, 0), (0, 0, 0)]), (99, []))), (((50, List.replicate 256 (0, 0, 0)), (99, [])), ((50, List.replicate 30 (0, 0, 0)), (99, []))))))))) : ev_P8 ev_C)
set_option maxRecDepth 1000000 in
theorem or_cl : ev_isR (ev_exec ev_XT 2000 19 24 [(2, 59, 0)] 14699 133 ev_h0) 14699 133 ev_h0 = true := by decide +kernel
set_option maxRecDepth 1000000 in
theorem or_be : ev_isR (ev_exec ev_XT 2000 19 27 [(2, 59, 0), (2, 1, 0), (2, 36, 0)] 14699 133 ev_h0) 14699 133 ev_zB = true := by decide +kernel
set_option maxRecDepth 1000000 in
theorem or_f0 : (ev_hg ev_h0 0).2[3]? = some (2, 59, 0) := by decide +kernel
set_option maxRecDepth 1000000 in
theorem or_f1 : (ev_hg ev_h0 0).2[0]? = some (2, 1, 0) := by decide +kernel
set_option maxRecDepth 1000000 in
theorem or_f2 : (ev_hg ev_h0 0).2[1]? = some (2, 36, 0) := by decide +kernel
set_option maxRecDepth 1000000 in
theorem or_p : Nat.beq (ev_hg ev_h0 59).1 4 = true := by decide +kernel
set_option maxRecDepth 1000000 in
theorem or_b0 : Nat.beq (ev_hg ev_zB 0).1 9 = true := by decide +kernel
set_option maxRecDepth 1000000 in
theorem or_b1 : (ev_hg ev_zB 0).2[3]? = some (2, 59, 0) := by decide +kernel
set_option maxRecDepth 1000000 in
theorem or_b2 : Nat.beq (ev_hg ev_zB 59).1 4 = true := by decide +kernel
set_option maxRecDepth 1000000 in
theorem or_hX : ev_hle 8 ev_zX ev_zB = true := by decide +kernel
set_option maxRecDepth 1000000 in
theorem or_hM : ev_hle 8 ev_hM ev_h0 = true := by decide +kernel
set_option maxRecDepth 1000000 in
theorem or_hY : ev_hle 8 ev_hM ev_zY = true := by decide +kernel
def ev_oa (u : Nat) : Nat := if u < 4096 ∧ ev_pc u 12 ≤ 8 then ev_fact (ev_pc u 12) else 4294967295
theorem or_no1 (l : Launch) {u : Nat} (hu : u < 4294967296) (hn : ¬ u < 4096) : ev_Met l ev_N86 (19 + 1) [(2, 0, 0), (0, u, 0)] 14699 133 ev_h0 ((0, 4294967295, 0), 14699, 133, ev_h0) := by
  refine ev_Met_ofG (d := 19) (by decide +kernel) (Nat.le_of_ble_eq_true rfl) (by intro v hv; simp only [List.mem_cons, List.not_mem_nil, or_false] at hv; rcases hv with rfl | rfl <;> exact Nat.le_of_ble_eq_true rfl) ?_
  intro p e s m args below meth c D cA ads A Q ha
  have hC : ev_okL ev_MT ev_N86.1.cls (ev_N86.1.name == "<init>") ev_N86.2.2.2 ev_N86.2.1 evc_86 := ev_chk_ok _ ek_86
  have hnone := ev_none_ok l 19
  have hex := ev_ex_ok l 2000 19
  obtain ⟨vc, hcl, hv9⟩ := ev_isR_ok or_cl
  have hop := ev_c1_ok (l := l) (d := 19) (k0 := 106) (as0 := [(2, 0, 0), (0, u, 0)]) (ns0 := 14699) (nc0 := 133) (h0 := ev_h0) (r0 := ((0, ev_op u, 0), 14699, 133, ev_h0)) (ev_none_ok l 19) (fun M hM => by have hM2 : M = ev_N106 := Option.some.inj (hM.symm.trans rfl); rw [hM2]; exact open_x l hu)
  refine ev_act_step ha hnone hC ex_86 sk_86_0 (fun Kn Kj => eq_aload (v := (2, 0, 0)) rfl rfl) ?_
  refine ev_act_step ha hnone hC ex_86 sk_86_1 (fun Kn Kj => eq_getf (by decide) fi_t0 or_f0) ?_
  refine ev_act_step ha hex hC ex_86 sk_86_4 (fun Kn Kj => (eq_virt0 rfl (by decide) or_p hcl).trans (ev_back_no (by rw [hv9]; rfl))) ?_
  refine ev_act_step ha hnone hC ex_86 sk_86_7 (fun Kn Kj => eq_aload (v := (2, 0, 0)) rfl rfl) ?_
  refine ev_act_step ha hnone hC ex_86 sk_86_8 (fun Kn Kj => eq_iload (v := (0, u, 0)) rfl (Nat.zero_le _)) ?_
  refine ev_act_step ha hop hC ex_86 sk_86_9 (fun Kn Kj => (eq_virt1 rfl (by decide) fi_t0 ev_c1_at).trans (ev_back_yes rfl)) ?_
  rw [show ev_op u = 0 from if_neg hn]
  refine ev_act_jump ha hnone hC ex_86 sk_86_12 (fun Kn Kj => eq_ifc_eq_y (a := (0, 0, 0)) rfl (ev_key_small (u := 0) (by decide)) (by omega)) ?_
  exact ev_act_endG (v' := (0, 4294967295, 0)) ha hnone hC ex_86 24 (fuel := 10) rfl
theorem or_no2 (l : Launch) {u : Nat} (h12 : u < 4096) (h9 : ¬ ev_pc u 12 ≤ 8) : ev_Met l ev_N86 (19 + 1) [(2, 0, 0), (0, u, 0)] 14699 133 ev_h0 ((0, 4294967295, 0), 14699, 133, ev_h0) := by
  refine ev_Met_ofG (d := 19) (by decide +kernel) (Nat.le_of_ble_eq_true rfl) (by intro v hv; simp only [List.mem_cons, List.not_mem_nil, or_false] at hv; rcases hv with rfl | rfl <;> exact Nat.le_of_ble_eq_true rfl) ?_
  intro p e s m args below meth c D cA ads A Q ha
  have hC : ev_okL ev_MT ev_N86.1.cls (ev_N86.1.name == "<init>") ev_N86.2.2.2 ev_N86.2.1 evc_86 := ev_chk_ok _ ek_86
  have hnone := ev_none_ok l 19
  have hex := ev_ex_ok l 2000 19
  obtain ⟨vc, hcl, hv9⟩ := ev_isR_ok or_cl
  have hop := ev_c1_ok (l := l) (d := 19) (k0 := 106) (as0 := [(2, 0, 0), (0, u, 0)]) (ns0 := 14699) (nc0 := 133) (h0 := ev_h0) (r0 := ((0, ev_op u, 0), 14699, 133, ev_h0)) (ev_none_ok l 19) (fun M hM => by have hM2 : M = ev_N106 := Option.some.inj (hM.symm.trans rfl); rw [hM2]; exact open_x l (by omega))
  refine ev_act_step ha hnone hC ex_86 sk_86_0 (fun Kn Kj => eq_aload (v := (2, 0, 0)) rfl rfl) ?_
  refine ev_act_step ha hnone hC ex_86 sk_86_1 (fun Kn Kj => eq_getf (by decide) fi_t0 or_f0) ?_
  refine ev_act_step ha hex hC ex_86 sk_86_4 (fun Kn Kj => (eq_virt0 rfl (by decide) or_p hcl).trans (ev_back_no (by rw [hv9]; rfl))) ?_
  refine ev_act_step ha hnone hC ex_86 sk_86_7 (fun Kn Kj => eq_aload (v := (2, 0, 0)) rfl rfl) ?_
  refine ev_act_step ha hnone hC ex_86 sk_86_8 (fun Kn Kj => eq_iload (v := (0, u, 0)) rfl (Nat.zero_le _)) ?_
  refine ev_act_step ha hop hC ex_86 sk_86_9 (fun Kn Kj => (eq_virt1 rfl (by decide) fi_t0 ev_c1_at).trans (ev_back_yes rfl)) ?_
  rw [show ev_op u = 1 from if_pos h12]
  refine ev_act_step ha hnone hC ex_86 sk_86_12 (fun Kn Kj => eq_ifc_eq_n (a := (0, 1, 0)) rfl (ev_key_small (u := 1) (by decide)) (by omega)) ?_
  refine ev_act_step ha hnone hC ex_86 sk_86_15 (fun Kn Kj => eq_iload (v := (0, u, 0)) rfl (Nat.zero_le _)) ?_
  have hbc := ev_c1_ok (l := l) (d := 19) (k0 := 186) (as0 := [(0, u, 0)]) (ns0 := 14699) (nc0 := 133) (h0 := ev_h0) (r0 := ((0, ev_pc u 12, 0), 14699, 133, ev_h0)) (ev_none_ok l 19) (bc_x l h12 ev_h0)
  refine ev_act_step ha hbc hC ex_86 sk_86_16 (fun Kn Kj => (eq_stat1 rfl ev_c1_at).trans (ev_back_yes rfl)) ?_
  refine ev_act_step ha hnone hC ex_86 sk_86_19 (fun Kn Kj => rfl) ?_
  have hpl := ev_pc_le u 12
  have kn : Nat.mod (Nat.add (ev_pc u 12) 2147483648) 4294967296 = ev_pc u 12 + 2147483648 := ev_key_small (by omega)
  refine ev_act_step ha hnone hC ex_86 sk_86_21 (fun Kn Kj => eq_icmp_le_n (a := (0, ev_pc u 12, 0)) (b := (0, 8, 0)) rfl rfl kn (ev_key_small (u := 8) (by decide)) (by omega)) ?_
  exact ev_act_endG (v' := (0, 4294967295, 0)) ha hnone hC ex_86 24 (fuel := 10) rfl
theorem or_yes (l : Launch) {u : Nat} (h12 : u < 4096) (h8 : ev_pc u 12 ≤ 8) : ev_Met l ev_N86 (19 + 1) [(2, 0, 0), (0, u, 0)] 14699 133 ev_h0 ((0, ev_fact (ev_pc u 12), 0), 14699, 133, ev_zY) := by
  refine ev_Met_ofG (d := 19) (by decide +kernel) (Nat.le_of_ble_eq_true rfl) (by intro v hv; simp only [List.mem_cons, List.not_mem_nil, or_false] at hv; rcases hv with rfl | rfl <;> exact Nat.le_of_ble_eq_true rfl) ?_
  intro p e s m args below meth c D cA ads A Q ha
  have hC : ev_okL ev_MT ev_N86.1.cls (ev_N86.1.name == "<init>") ev_N86.2.2.2 ev_N86.2.1 evc_86 := ev_chk_ok _ ek_86
  have hnone := ev_none_ok l 19
  have hex := ev_ex_ok l 2000 19
  obtain ⟨vc, hcl, hv9⟩ := ev_isR_ok or_cl
  have hop := ev_c1_ok (l := l) (d := 19) (k0 := 106) (as0 := [(2, 0, 0), (0, u, 0)]) (ns0 := 14699) (nc0 := 133) (h0 := ev_h0) (r0 := ((0, ev_op u, 0), 14699, 133, ev_h0)) (ev_none_ok l 19) (fun M hM => by have hM2 : M = ev_N106 := Option.some.inj (hM.symm.trans rfl); rw [hM2]; exact open_x l (by omega))
  refine ev_act_step ha hnone hC ex_86 sk_86_0 (fun Kn Kj => eq_aload (v := (2, 0, 0)) rfl rfl) ?_
  refine ev_act_step ha hnone hC ex_86 sk_86_1 (fun Kn Kj => eq_getf (by decide) fi_t0 or_f0) ?_
  refine ev_act_step ha hex hC ex_86 sk_86_4 (fun Kn Kj => (eq_virt0 rfl (by decide) or_p hcl).trans (ev_back_no (by rw [hv9]; rfl))) ?_
  refine ev_act_step ha hnone hC ex_86 sk_86_7 (fun Kn Kj => eq_aload (v := (2, 0, 0)) rfl rfl) ?_
  refine ev_act_step ha hnone hC ex_86 sk_86_8 (fun Kn Kj => eq_iload (v := (0, u, 0)) rfl (Nat.zero_le _)) ?_
  refine ev_act_step ha hop hC ex_86 sk_86_9 (fun Kn Kj => (eq_virt1 rfl (by decide) fi_t0 ev_c1_at).trans (ev_back_yes rfl)) ?_
  rw [show ev_op u = 1 from if_pos h12]
  refine ev_act_step ha hnone hC ex_86 sk_86_12 (fun Kn Kj => eq_ifc_eq_n (a := (0, 1, 0)) rfl (ev_key_small (u := 1) (by decide)) (by omega)) ?_
  refine ev_act_step ha hnone hC ex_86 sk_86_15 (fun Kn Kj => eq_iload (v := (0, u, 0)) rfl (Nat.zero_le _)) ?_
  have hbc := ev_c1_ok (l := l) (d := 19) (k0 := 186) (as0 := [(0, u, 0)]) (ns0 := 14699) (nc0 := 133) (h0 := ev_h0) (r0 := ((0, ev_pc u 12, 0), 14699, 133, ev_h0)) (ev_none_ok l 19) (bc_x l h12 ev_h0)
  refine ev_act_step ha hbc hC ex_86 sk_86_16 (fun Kn Kj => (eq_stat1 rfl ev_c1_at).trans (ev_back_yes rfl)) ?_
  refine ev_act_step ha hnone hC ex_86 sk_86_19 (fun Kn Kj => rfl) ?_
  have hpl := ev_pc_le u 12
  have kn : Nat.mod (Nat.add (ev_pc u 12) 2147483648) 4294967296 = ev_pc u 12 + 2147483648 := ev_key_small (by omega)
  refine ev_act_jump ha hnone hC ex_86 sk_86_21 (fun Kn Kj => eq_icmp_le_y (a := (0, ev_pc u 12, 0)) (b := (0, 8, 0)) rfl rfl kn (ev_key_small (u := 8) (by decide)) (by omega)) ?_
  obtain ⟨vb, hbe, hb9⟩ := ev_isR_ok or_be
  refine ev_act_step ha hnone hC ex_86 sk_86_26 (fun Kn Kj => eq_aload (v := (2, 0, 0)) rfl rfl) ?_
  refine ev_act_step ha hnone hC ex_86 sk_86_27 (fun Kn Kj => eq_getf (by decide) fi_t0 or_f0) ?_
  refine ev_act_step ha hnone hC ex_86 sk_86_30 (fun Kn Kj => eq_aload (v := (2, 0, 0)) rfl rfl) ?_
  refine ev_act_step ha hnone hC ex_86 sk_86_31 (fun Kn Kj => eq_getf (by decide) fi_t0 or_f1) ?_
  refine ev_act_step ha hnone hC ex_86 sk_86_34 (fun Kn Kj => eq_aload (v := (2, 0, 0)) rfl rfl) ?_
  refine ev_act_step ha hnone hC ex_86 sk_86_35 (fun Kn Kj => eq_getf (by decide) fi_t0 or_f2) ?_
  refine ev_act_step ha hex hC ex_86 sk_86_38 (fun Kn Kj => (eq_virt2 rfl (by decide) or_p hbe).trans (ev_back_no (by rw [hb9]; rfl))) ?_
  refine ev_act_step ha hnone hC ex_86 sk_86_41 (fun Kn Kj => eq_aload (v := (2, 0, 0)) rfl rfl) ?_
  refine ev_act_step ha hnone hC ex_86 sk_86_42 (fun Kn Kj => eq_getf (by decide) or_b0 or_b1) ?_
  refine ev_act_step ha hnone hC ex_86 sk_86_45 (fun Kn Kj => eq_iload (v := (0, u, 0)) rfl (Nat.zero_le _)) ?_
  have hco := ev_c1_ok (l := l) (d := 19) (k0 := 34) (as0 := [(2, 59, 0), (0, u, 0)]) (ns0 := 14699) (nc0 := 133) (h0 := ev_zB) (r0 := ((0, ev_fact (ev_pc u 12), 0), 14699, 133, ev_zY)) (ev_none_ok l 19) (fun M hM => by have hM2 : M = ev_N34 := Option.some.inj (hM.symm.trans rfl); rw [hM2]; exact (co_met l h12 h8).leH or_hX)
  refine ev_act_step ha hco hC ex_86 sk_86_46 (fun Kn Kj => (eq_virt1 rfl (by decide) or_b2 ev_c1_at).trans (ev_back_yes rfl)) ?_
  exact ev_act_endG (v' := (0, ev_fact (ev_pc u 12), 0)) ha hnone hC ex_86 49 (fuel := 10) rfl
theorem or_met (l : Launch) {u : Nat} (hu : u < 4294967296) : ev_Met l ev_N86 20 [(2, 0, 0), (0, u, 0)] 14699 133 ev_h0 ((0, ev_oa u, 0), 14699, 133, ev_hM) := by
  by_cases h1 : u < 4096
  · by_cases h2 : ev_pc u 12 ≤ 8
    · rw [show ev_oa u = ev_fact (ev_pc u 12) from if_pos ⟨h1, h2⟩]
      exact (or_yes l h1 h2).to (ev_vle_0 _) or_hY
    · rw [show ev_oa u = 4294967295 from if_neg (fun z => h2 z.2)]
      exact (or_no2 l h1 h2).to (ev_vle_0 _) or_hM
  · rw [show ev_oa u = 4294967295 from if_neg (fun z => h1 z.1)]
    exact (or_no1 l hu h1).to (ev_vle_0 _) or_hM
set_option maxRecDepth 100000 in
theorem sk_164_0 : ev_seek evx_164 0 = (0, eo_aload 0) :: (1, eo_push (0, 0, 0)) :: evx_164.drop 2 := rfl
set_option maxRecDepth 100000 in
theorem sk_164_1 : ev_seek evx_164 1 = (1, eo_push (0, 0, 0)) :: (2, eo_putf 10 20 0) :: evx_164.drop 3 := rfl
set_option maxRecDepth 100000 in
theorem sk_164_2 : ev_seek evx_164 2 = (2, eo_putf 10 20 0) :: (5, eo_iload 1) :: evx_164.drop 4 := rfl
set_option maxRecDepth 100000 in
theorem sk_164_5 : ev_seek evx_164 5 = (5, eo_iload 1) :: (6, eo_ifc .lt 29) :: evx_164.drop 5 := rfl
set_option maxRecDepth 100000 in
theorem sk_164_6 : ev_seek evx_164 6 = (6, eo_ifc .lt 29) :: (9, eo_iload 1) :: evx_164.drop 6 := rfl
set_option maxRecDepth 100000 in
theorem sk_164_9 : ev_seek evx_164 9 = (9, eo_iload 1) :: (10, eo_aload 0) :: evx_164.drop 7 := rfl
set_option maxRecDepth 100000 in
theorem sk_164_10 : ev_seek evx_164 10 = (10, eo_aload 0) :: (11, eo_virt 128 0 10) :: evx_164.drop 8 := rfl
set_option maxRecDepth 100000 in
theorem sk_164_11 : ev_seek evx_164 11 = (11, eo_virt 128 0 10) :: (14, eo_push (0, 4294967295, 0)) :: evx_164.drop 9 := rfl
set_option maxRecDepth 100000 in
theorem sk_164_14 : ev_seek evx_164 14 = (14, eo_push (0, 4294967295, 0)) :: (15, eo_bin eb_xor) :: evx_164.drop 10 := rfl
set_option maxRecDepth 100000 in
theorem sk_164_15 : ev_seek evx_164 15 = (15, eo_bin eb_xor) :: (16, eo_bin eb_and) :: evx_164.drop 11 := rfl
set_option maxRecDepth 100000 in
theorem sk_164_16 : ev_seek evx_164 16 = (16, eo_bin eb_and) :: (17, eo_ifc .ne 29) :: evx_164.drop 12 := rfl
set_option maxRecDepth 100000 in
theorem sk_164_17 : ev_seek evx_164 17 = (17, eo_ifc .ne 29) :: (20, eo_iload 1) :: evx_164.drop 13 := rfl
set_option maxRecDepth 100000 in
theorem sk_164_20 : ev_seek evx_164 20 = (20, eo_iload 1) :: (21, eo_stat 119 1) :: evx_164.drop 14 := rfl
set_option maxRecDepth 100000 in
theorem sk_164_21 : ev_seek evx_164 21 = (21, eo_stat 119 1) :: (24, eo_push (0, 8, 0)) :: evx_164.drop 15 := rfl
set_option maxRecDepth 100000 in
theorem sk_164_24 : ev_seek evx_164 24 = (24, eo_push (0, 8, 0)) :: (26, eo_icmp .le 31) :: evx_164.drop 16 := rfl
set_option maxRecDepth 100000 in
theorem sk_164_26 : ev_seek evx_164 26 = (26, eo_icmp .le 31) :: (29, eo_push (0, 4294967295, 0)) :: evx_164.drop 17 := rfl
set_option maxRecDepth 100000 in
theorem sk_164_31 : ev_seek evx_164 31 = (31, eo_aload 0) :: (32, eo_virt 130 0 10) :: evx_164.drop 20 := rfl
set_option maxRecDepth 100000 in
theorem sk_164_32 : ev_seek evx_164 32 = (32, eo_virt 130 0 10) :: (35, eo_push (0, 0, 0)) :: evx_164.drop 21 := rfl
set_option maxRecDepth 100000 in
theorem sk_164_35 : ev_seek evx_164 35 = (35, eo_push (0, 0, 0)) :: (36, eo_istore 2) :: evx_164.drop 22 := rfl
set_option maxRecDepth 100000 in
theorem sk_164_36 : ev_seek evx_164 36 = (36, eo_istore 2) :: (37, eo_push (0, 0, 0)) :: evx_164.drop 23 := rfl
set_option maxRecDepth 100000 in
theorem sk_164_37 : ev_seek evx_164 37 = (37, eo_push (0, 0, 0)) :: (38, eo_istore 3) :: evx_164.drop 24 := rfl
set_option maxRecDepth 100000 in
theorem sk_164_38 : ev_seek evx_164 38 = (38, eo_istore 3) :: (39, eo_iload 3) :: evx_164.drop 25 := rfl
set_option maxRecDepth 100000 in
theorem sk_164_39 : ev_seek evx_164 39 = (39, eo_iload 3) :: (40, eo_aload 0) :: evx_164.drop 26 := rfl
set_option maxRecDepth 100000 in
theorem sk_164_40 : ev_seek evx_164 40 = (40, eo_aload 0) :: (41, eo_virt 121 0 10) :: evx_164.drop 27 := rfl
set_option maxRecDepth 100000 in
theorem sk_164_41 : ev_seek evx_164 41 = (41, eo_virt 121 0 10) :: (44, eo_icmp .ge 74) :: evx_164.drop 28 := rfl
set_option maxRecDepth 100000 in
theorem sk_164_44 : ev_seek evx_164 44 = (44, eo_icmp .ge 74) :: (47, eo_iload 1) :: evx_164.drop 29 := rfl
set_option maxRecDepth 100000 in
theorem sk_164_47 : ev_seek evx_164 47 = (47, eo_iload 1) :: (48, eo_iload 3) :: evx_164.drop 30 := rfl
set_option maxRecDepth 100000 in
theorem sk_164_48 : ev_seek evx_164 48 = (48, eo_iload 3) :: (49, eo_stat 120 2) :: evx_164.drop 31 := rfl
set_option maxRecDepth 100000 in
theorem sk_164_49 : ev_seek evx_164 49 = (49, eo_stat 120 2) :: (52, eo_ifc .ne 58) :: evx_164.drop 32 := rfl
set_option maxRecDepth 100000 in
theorem sk_164_52 : ev_seek evx_164 52 = (52, eo_ifc .ne 58) :: (55, eo_goto 68) :: evx_164.drop 33 := rfl
set_option maxRecDepth 100000 in
theorem sk_164_55 : ev_seek evx_164 55 = (55, eo_goto 68) :: evx_164.drop 33 := rfl
set_option maxRecDepth 100000 in
theorem sk_164_58 : ev_seek evx_164 58 = (58, eo_aload 0) :: (59, eo_getf 10 17) :: evx_164.drop 35 := rfl
set_option maxRecDepth 100000 in
theorem sk_164_59 : ev_seek evx_164 59 = (59, eo_getf 10 17) :: (62, eo_iload 2) :: evx_164.drop 36 := rfl
set_option maxRecDepth 100000 in
theorem sk_164_62 : ev_seek evx_164 62 = (62, eo_iload 2) :: (63, eo_iload 3) :: evx_164.drop 37 := rfl
set_option maxRecDepth 100000 in
theorem sk_164_63 : ev_seek evx_164 63 = (63, eo_iload 3) :: (64, eo_iast) :: evx_164.drop 38 := rfl
set_option maxRecDepth 100000 in
theorem sk_164_64 : ev_seek evx_164 64 = (64, eo_iast) :: (65, eo_iinc 2 1) :: evx_164.drop 39 := rfl
set_option maxRecDepth 100000 in
theorem sk_164_65 : ev_seek evx_164 65 = (65, eo_iinc 2 1) :: (68, eo_iinc 3 1) :: evx_164.drop 40 := rfl
set_option maxRecDepth 100000 in
theorem sk_164_68 : ev_seek evx_164 68 = (68, eo_iinc 3 1) :: (71, eo_goto 39) :: evx_164.drop 41 := rfl
set_option maxRecDepth 100000 in
theorem sk_164_71 : ev_seek evx_164 71 = (71, eo_goto 39) :: evx_164.drop 41 := rfl
set_option maxRecDepth 1000000 in
theorem mz83 : Nat.beq (ev_hg ev_zM 83).1 10 = true := by decide +kernel
set_option maxRecDepth 1000000 in
theorem mz83c : (ev_hg ev_zM 83).2[17]? = some (2, 122, 0) := by decide +kernel
set_option maxRecDepth 1000000 in
theorem mz122 : Nat.beq (ev_hg ev_zM 122).1 50 = true := by decide +kernel
set_option maxRecDepth 1000000 in
theorem mz122l : (ev_hg ev_zM 122).2.length = 8 := by decide +kernel
set_option maxRecDepth 1000000 in
theorem mz83l : 20 < (ev_hg ev_zM 83).2.length := by decide +kernel
set_option maxRecDepth 1000000 in
theorem m_laid : ev_hle 8 ev_zM (ev_hs ev_zM 83 (10, (ev_hg ev_zM 83).2.set 20 (0, 0, 0))) = true := by decide +kernel
set_option maxRecDepth 1000000 in
theorem m_oc : ev_isV (ev_exec ev_XT 2000 19 128 [(2, 83, 0)] 14699 133 ev_zM) (0, 4095, 0) 14699 133 ev_zM = true := by decide +kernel
set_option maxRecDepth 1000000 in
theorem m_lw : ev_isR (ev_exec ev_XT 2000 19 130 [(2, 83, 0)] 14699 133 ev_zM) 14699 133 ev_zM = true := by decide +kernel
set_option maxRecDepth 1000000 in
theorem m_wi : ev_isV (ev_exec ev_XT 2000 19 121 [(2, 83, 0)] 14699 133 ev_zM) (0, 12, 0) 14699 133 ev_zM = true := by decide +kernel
set_option maxRecDepth 1000000 in
theorem m_st : (List.range 8).all (fun n => (List.range 12).all (fun c => ev_hle 8 ev_zM (ev_hs ev_zM 122 (50, (ev_hg ev_zM 122).2.set n (0, c, 0))))) = true := by decide +kernel
theorem mo_head {l : Launch} {p : Program} {e : Env} {s : State} {m : MethodId} {args : Array Value} {below : List Frame} {meth : Method} {c : Code} {D : va_G} {cA : ev_cA} {ads : List Nat} {A : Nat → Prop} {Q : State → Prop} {u : Nat} (hu : u < 4096) (h8 : ev_pc u 12 ≤ 8) (ha : ev_act l ev_N164 19 14699 133 (0, ev_fact (ev_pc u 12), 0) ev_zQ p e s m args below meth c D cA ads A Q) : ∀ j x, x + j = 12 → ev_gd p l e (ev_rm (19 + 1) 0 0) s m args below meth c Q ev_N164.2.2.1 D cA A ads 133 14699 ((8, 7, 7), 14699, 133, ev_zQ) 39 [(2, 83, 0), (0, u, 0), (0, ev_pc u x, 0), (0, x, 0), (9, 0, 0), (9, 0, 0)] [] 14699 133 ev_zM := by
  have hC : ev_okL ev_MT ev_N164.1.cls (ev_N164.1.name == "<init>") ev_N164.2.2.2 ev_N164.2.1 evc_164 := ev_chk_ok _ ek_164
  have hcall := ev_none_ok l 19
  have hex := ev_ex_ok l 2000 19
  intro j
  induction j with
  | zero =>
    intro x hx
    have hx12 : x = 12 := by omega
    subst hx12
    refine ev_act_step ha hcall hC ex_164 sk_164_39 (fun Kn Kj => eq_iload (v := (0, 12, 0)) rfl (Nat.zero_le _)) ?_
    refine ev_act_step ha hcall hC ex_164 sk_164_40 (fun Kn Kj => eq_aload (v := (2, 83, 0)) rfl rfl) ?_
    refine ev_act_step ha hex hC ex_164 sk_164_41 (fun Kn Kj => (eq_virt0 rfl (by decide) mz83 (ev_isV_ok m_wi)).trans (ev_back_yes rfl)) ?_
    refine ev_act_jump ha hcall hC ex_164 sk_164_44 (fun Kn Kj => eq_icmp_ge_y (a := (0, 12, 0)) (b := (0, 12, 0)) rfl rfl (ev_key_small (u := 12) (by decide)) (ev_key_small (u := 12) (by decide)) (Nat.le_refl _)) ?_
    generalize ev_pc u 12 = k at *
    refine ev_act_weakA (al' := [(2, 83, 0), (1, 0, 4294967295), (0, k, 0), (0, 12, 0), (9, 0, 0), (9, 0, 0)]) ?_ ?_
    · show ev_lle ev_vl9 [(2, 83, 0), (1, 0, 4294967295), (0, k, 0), (0, 12, 0), (9, 0, 0), (9, 0, 0)] [(2, 83, 0), (0, u, 0), (0, k, 0), (0, 12, 0), (9, 0, 0), (9, 0, 0)] = true
      exact ev_lle_cons (by decide +kernel) (ev_lle_cons (ev_vle_top u 0) (ev_lle_cons (ev_vl9_0 k) (ev_lle_cons (by decide +kernel) (ev_lle_cons (by decide +kernel) (ev_lle_cons (by decide +kernel) ev_lle_nil)))))
    · by_cases hk : k < 7
      · exact ev_act_paths ha (dl_w_ok l) hC ey_164 74 (bp := 9999) (fuel := 50000) (List.all_eq_true.mp pa_mord k (List.mem_range.mpr hk))
      · by_cases hk7 : k = 7
        · subst hk7
          exact ev_act_paths ha (dl_w_ok l) hC ey_164 74 (bp := 9999) (fuel := 50000) pa_mord7
        · have hk8 : k = 8 := by omega
          subst hk8
          exact ev_act_paths ha (dl_w_ok l) hC ey_164 74 (bp := 9999) (fuel := 50000) pa_mord8
  | succ j ih =>
    intro x hx
    have kx : Nat.mod (Nat.add x 2147483648) 4294967296 = x + 2147483648 := ev_key_small (by omega)
    have m1 : ev_pc u (x + 1) ≤ ev_pc u 12 := by have := ev_pc_mono u (12 - (x + 1)) (x + 1); rw [show x + 1 + (12 - (x + 1)) = 12 by omega] at this; exact this
    have hnext : ev_pc u (x + 1) = ev_pc u x + (u / 2 ^ x) % 2 := rfl
    have hb : (u / 2 ^ x) % 2 < 2 := Nat.mod_lt _ (by decide)
    refine ev_act_step ha hcall hC ex_164 sk_164_39 (fun Kn Kj => eq_iload (v := (0, x, 0)) rfl (Nat.zero_le _)) ?_
    refine ev_act_step ha hcall hC ex_164 sk_164_40 (fun Kn Kj => eq_aload (v := (2, 83, 0)) rfl rfl) ?_
    refine ev_act_step ha hex hC ex_164 sk_164_41 (fun Kn Kj => (eq_virt0 rfl (by decide) mz83 (ev_isV_ok m_wi)).trans (ev_back_yes rfl)) ?_
    refine ev_act_step ha hcall hC ex_164 sk_164_44 (fun Kn Kj => eq_icmp_ge_n (a := (0, x, 0)) (b := (0, 12, 0)) rfl rfl kx (ev_key_small (u := 12) (by decide)) (by omega)) ?_
    refine ev_act_step ha hcall hC ex_164 sk_164_47 (fun Kn Kj => eq_iload (v := (0, u, 0)) rfl (Nat.zero_le _)) ?_
    refine ev_act_step ha hcall hC ex_164 sk_164_48 (fun Kn Kj => eq_iload (v := (0, x, 0)) rfl (Nat.zero_le _)) ?_
    have hci := ev_c1_ok (l := l) (d := 19) (k0 := 120) (as0 := [(0, u, 0), (0, x, 0)]) (ns0 := 14699) (nc0 := 133) (h0 := ev_zM) (r0 := ((0, (u / 2 ^ x) % 2, 0), 14699, 133, ev_zM)) (ev_none_ok l 19) (fun M hM => by have hM2 : M = ev_N120 := Option.some.inj (hM.symm.trans rfl); rw [hM2]; exact has_x l 18 hu (by omega) _ _ _)
    refine ev_act_step ha hci hC ex_164 sk_164_49 (fun Kn Kj => (eq_stat2 rfl ev_c1_at).trans (ev_back_yes rfl)) ?_
    have kb : Nat.mod (Nat.add ((u / 2 ^ x) % 2) 2147483648) 4294967296 = (u / 2 ^ x) % 2 + 2147483648 := ev_key_small (by omega)
    by_cases hz : (u / 2 ^ x) % 2 = 0
    · rw [hz] at hnext
      rw [Nat.add_zero] at hnext
      refine ev_act_step ha hcall hC ex_164 sk_164_52 (fun Kn Kj => eq_ifc_ne_n (a := (0, (u / 2 ^ x) % 2, 0)) rfl kb (by omega)) ?_
      refine ev_act_jump ha hcall hC ex_164 sk_164_55 (fun Kn Kj => rfl) ?_
      refine ev_act_step ha hcall hC ex_164 sk_164_68 (fun Kn Kj => eq_iinc (v := (0, x, 0)) rfl rfl (ev_add1 x (by omega))) ?_
      refine ev_act_jump ha hcall hC ex_164 sk_164_71 (fun Kn Kj => rfl) ?_
      have := ih (x + 1) (by omega)
      rw [hnext] at this
      exact this
    · have hb1 : (u / 2 ^ x) % 2 = 1 := by omega
      rw [hb1] at hnext
      refine ev_act_jump ha hcall hC ex_164 sk_164_52 (fun Kn Kj => eq_ifc_ne_y (a := (0, (u / 2 ^ x) % 2, 0)) rfl kb (by omega)) ?_
      refine ev_act_step ha hcall hC ex_164 sk_164_58 (fun Kn Kj => eq_aload (v := (2, 83, 0)) rfl rfl) ?_
      refine ev_act_step ha hcall hC ex_164 sk_164_59 (fun Kn Kj => eq_getf (by decide) mz83 mz83c) ?_
      refine ev_act_step ha hcall hC ex_164 sk_164_62 (fun Kn Kj => eq_iload (v := (0, ev_pc u x, 0)) rfl (Nat.zero_le _)) ?_
      refine ev_act_step ha hcall hC ex_164 sk_164_63 (fun Kn Kj => eq_iload (v := (0, x, 0)) rfl (Nat.zero_le _)) ?_
      refine ev_act_step ha hcall hC ex_164 sk_164_64 (fun Kn Kj => eq_iast (i := (0, ev_pc u x, 0)) (v := (0, x, 0)) (by decide) mz122 (Nat.zero_le _) rfl (by show ev_pc u x < 65536; omega) (by rw [mz122l]; show ev_pc u x < 8; omega)) ?_
      refine ev_act_weakH (List.all_eq_true.mp (List.all_eq_true.mp m_st (ev_pc u x) (List.mem_range.mpr (by omega))) x (List.mem_range.mpr (by omega))) ?_
      refine ev_act_step ha hcall hC ex_164 sk_164_65 (fun Kn Kj => eq_iinc (v := (0, ev_pc u x, 0)) rfl rfl (ev_add1 (ev_pc u x) (by omega))) ?_
      refine ev_act_step ha hcall hC ex_164 sk_164_68 (fun Kn Kj => eq_iinc (v := (0, x, 0)) rfl rfl (ev_add1 x (by omega))) ?_
      refine ev_act_jump ha hcall hC ex_164 sk_164_71 (fun Kn Kj => rfl) ?_
      have := ih (x + 1) (by omega)
      rw [hnext] at this
      exact this
theorem mr_no0 (l : Launch) {u : Nat} (hu : u < 4294967296) (hn : 2147483648 ≤ u) : ev_Met l ev_N164 (19 + 1) [(2, 83, 0), (0, u, 0)] 14699 133 ev_zM ((0, 4294967295, 0), 14699, 133, ev_zM) := by
  refine ev_Met_ofG (d := 19) (by decide +kernel) (Nat.le_of_ble_eq_true rfl) (by intro v hv; simp only [List.mem_cons, List.not_mem_nil, or_false] at hv; rcases hv with rfl | rfl <;> exact Nat.le_of_ble_eq_true rfl) ?_
  intro p e s m args below meth c D cA ads A Q ha
  have hC : ev_okL ev_MT ev_N164.1.cls (ev_N164.1.name == "<init>") ev_N164.2.2.2 ev_N164.2.1 evc_164 := ev_chk_ok _ ek_164
  have hnone := ev_none_ok l 19
  have hex := ev_ex_ok l 2000 19
  refine ev_act_step ha hnone hC ex_164 sk_164_0 (fun Kn Kj => eq_aload (v := (2, 83, 0)) rfl rfl) ?_
  refine ev_act_step ha hnone hC ex_164 sk_164_1 (fun Kn Kj => rfl) ?_
  refine ev_act_step ha hnone hC ex_164 sk_164_2 (fun Kn Kj => eq_putf (v := (0, 0, 0)) (by decide) mz83 rfl mz83l) ?_
  refine ev_act_weakH m_laid ?_
  refine ev_act_step ha hnone hC ex_164 sk_164_5 (fun Kn Kj => eq_iload (v := (0, u, 0)) rfl (Nat.zero_le _)) ?_
  have ku : Nat.mod (Nat.add u 2147483648) 4294967296 = u - 2147483648 := by show (u + 2147483648) % 4294967296 = _; omega
  refine ev_act_jump ha hnone hC ex_164 sk_164_6 (fun Kn Kj => eq_ifc_lt_y (a := (0, u, 0)) rfl ku (by omega)) ?_
  exact ev_act_endG (v' := (0, 4294967295, 0)) ha hnone hC ex_164 29 (fuel := 10) rfl
theorem mr_no1 (l : Launch) {u : Nat} (hu : u < 2147483648) (hn : ¬ u < 4096) : ev_Met l ev_N164 (19 + 1) [(2, 83, 0), (0, u, 0)] 14699 133 ev_zM ((0, 4294967295, 0), 14699, 133, ev_zM) := by
  refine ev_Met_ofG (d := 19) (by decide +kernel) (Nat.le_of_ble_eq_true rfl) (by intro v hv; simp only [List.mem_cons, List.not_mem_nil, or_false] at hv; rcases hv with rfl | rfl <;> exact Nat.le_of_ble_eq_true rfl) ?_
  intro p e s m args below meth c D cA ads A Q ha
  have hC : ev_okL ev_MT ev_N164.1.cls (ev_N164.1.name == "<init>") ev_N164.2.2.2 ev_N164.2.1 evc_164 := ev_chk_ok _ ek_164
  have hnone := ev_none_ok l 19
  have hex := ev_ex_ok l 2000 19
  refine ev_act_step ha hnone hC ex_164 sk_164_0 (fun Kn Kj => eq_aload (v := (2, 83, 0)) rfl rfl) ?_
  refine ev_act_step ha hnone hC ex_164 sk_164_1 (fun Kn Kj => rfl) ?_
  refine ev_act_step ha hnone hC ex_164 sk_164_2 (fun Kn Kj => eq_putf (v := (0, 0, 0)) (by decide) mz83 rfl mz83l) ?_
  refine ev_act_weakH m_laid ?_
  refine ev_act_step ha hnone hC ex_164 sk_164_5 (fun Kn Kj => eq_iload (v := (0, u, 0)) rfl (Nat.zero_le _)) ?_
  have ku : Nat.mod (Nat.add u 2147483648) 4294967296 = u + 2147483648 := ev_key_small (by omega)
  refine ev_act_step ha hnone hC ex_164 sk_164_6 (fun Kn Kj => eq_ifc_lt_n (a := (0, u, 0)) rfl ku (by omega)) ?_
  refine ev_act_step ha hnone hC ex_164 sk_164_9 (fun Kn Kj => eq_iload (v := (0, u, 0)) rfl (Nat.zero_le _)) ?_
  refine ev_act_step ha hnone hC ex_164 sk_164_10 (fun Kn Kj => eq_aload (v := (2, 83, 0)) rfl rfl) ?_
  refine ev_act_step ha hex hC ex_164 sk_164_11 (fun Kn Kj => (eq_virt0 rfl (by decide) mz83 (ev_isV_ok m_oc)).trans (ev_back_yes rfl)) ?_
  refine ev_act_step ha hnone hC ex_164 sk_164_14 (fun Kn Kj => rfl) ?_
  refine ev_act_step ha hnone hC ex_164 sk_164_15 (fun Kn Kj => eq_bin (a := (0, 4095, 0)) (b := (0, 4294967295, 0)) (w := 4294963200) rfl rfl (by decide +kernel)) ?_
  refine ev_act_step ha hnone hC ex_164 sk_164_16 (fun Kn Kj => eq_bin (a := (0, u, 0)) (b := (0, 4294963200, 0)) (w := u &&& 4294963200) rfl rfl (ar_and (u := u) (by omega))) ?_
  have hw : u &&& 4294963200 ≠ 0 := fun z => hn ((ar_land (by omega)).mp z)
  have hlt : u &&& 4294963200 < 4294967296 := Nat.lt_of_le_of_lt Nat.and_le_left (by omega)
  generalize u &&& 4294963200 = w at *
  refine ev_act_jump ha hnone hC ex_164 sk_164_17 (fun Kn Kj => eq_ifc_ne_y (a := (0, w, 0)) rfl rfl (show (w + 2147483648) % 4294967296 ≠ 2147483648 by omega)) ?_
  exact ev_act_endG (v' := (0, 4294967295, 0)) ha hnone hC ex_164 29 (fuel := 10) rfl
theorem mr_no2 (l : Launch) {u : Nat} (h12 : u < 4096) (h9 : ¬ ev_pc u 12 ≤ 8) : ev_Met l ev_N164 (19 + 1) [(2, 83, 0), (0, u, 0)] 14699 133 ev_zM ((0, 4294967295, 0), 14699, 133, ev_zM) := by
  refine ev_Met_ofG (d := 19) (by decide +kernel) (Nat.le_of_ble_eq_true rfl) (by intro v hv; simp only [List.mem_cons, List.not_mem_nil, or_false] at hv; rcases hv with rfl | rfl <;> exact Nat.le_of_ble_eq_true rfl) ?_
  intro p e s m args below meth c D cA ads A Q ha
  have hC : ev_okL ev_MT ev_N164.1.cls (ev_N164.1.name == "<init>") ev_N164.2.2.2 ev_N164.2.1 evc_164 := ev_chk_ok _ ek_164
  have hnone := ev_none_ok l 19
  have hex := ev_ex_ok l 2000 19
  refine ev_act_step ha hnone hC ex_164 sk_164_0 (fun Kn Kj => eq_aload (v := (2, 83, 0)) rfl rfl) ?_
  refine ev_act_step ha hnone hC ex_164 sk_164_1 (fun Kn Kj => rfl) ?_
  refine ev_act_step ha hnone hC ex_164 sk_164_2 (fun Kn Kj => eq_putf (v := (0, 0, 0)) (by decide) mz83 rfl mz83l) ?_
  refine ev_act_weakH m_laid ?_
  refine ev_act_step ha hnone hC ex_164 sk_164_5 (fun Kn Kj => eq_iload (v := (0, u, 0)) rfl (Nat.zero_le _)) ?_
  have ku : Nat.mod (Nat.add u 2147483648) 4294967296 = u + 2147483648 := ev_key_small (by omega)
  refine ev_act_step ha hnone hC ex_164 sk_164_6 (fun Kn Kj => eq_ifc_lt_n (a := (0, u, 0)) rfl ku (by omega)) ?_
  refine ev_act_step ha hnone hC ex_164 sk_164_9 (fun Kn Kj => eq_iload (v := (0, u, 0)) rfl (Nat.zero_le _)) ?_
  refine ev_act_step ha hnone hC ex_164 sk_164_10 (fun Kn Kj => eq_aload (v := (2, 83, 0)) rfl rfl) ?_
  refine ev_act_step ha hex hC ex_164 sk_164_11 (fun Kn Kj => (eq_virt0 rfl (by decide) mz83 (ev_isV_ok m_oc)).trans (ev_back_yes rfl)) ?_
  refine ev_act_step ha hnone hC ex_164 sk_164_14 (fun Kn Kj => rfl) ?_
  refine ev_act_step ha hnone hC ex_164 sk_164_15 (fun Kn Kj => eq_bin (a := (0, 4095, 0)) (b := (0, 4294967295, 0)) (w := 4294963200) rfl rfl (by decide +kernel)) ?_
  refine ev_act_step ha hnone hC ex_164 sk_164_16 (fun Kn Kj => eq_bin (a := (0, u, 0)) (b := (0, 4294963200, 0)) (w := u &&& 4294963200) rfl rfl (ar_and (u := u) (by omega))) ?_
  have hw : u &&& 4294963200 = 0 := (ar_land (by omega)).mpr h12
  rw [hw]
  refine ev_act_step ha hnone hC ex_164 sk_164_17 (fun Kn Kj => eq_ifc_ne_n (a := (0, 0, 0)) rfl (ev_key_small (u := 0) (by decide)) (by omega)) ?_
  refine ev_act_step ha hnone hC ex_164 sk_164_20 (fun Kn Kj => eq_iload (v := (0, u, 0)) rfl (Nat.zero_le _)) ?_
  have hbs := ev_c1_ok (l := l) (d := 19) (k0 := 119) (as0 := [(0, u, 0)]) (ns0 := 14699) (nc0 := 133) (h0 := ev_zM) (r0 := ((0, ev_pc u 12, 0), 14699, 133, ev_zM)) (ev_none_ok l 19) (bs_x l h12 ev_zM)
  refine ev_act_step ha hbs hC ex_164 sk_164_21 (fun Kn Kj => (eq_stat1 rfl ev_c1_at).trans (ev_back_yes rfl)) ?_
  refine ev_act_step ha hnone hC ex_164 sk_164_24 (fun Kn Kj => rfl) ?_
  have hpl := ev_pc_le u 12
  have kn : Nat.mod (Nat.add (ev_pc u 12) 2147483648) 4294967296 = ev_pc u 12 + 2147483648 := ev_key_small (by omega)
  refine ev_act_step ha hnone hC ex_164 sk_164_26 (fun Kn Kj => eq_icmp_le_n (a := (0, ev_pc u 12, 0)) (b := (0, 8, 0)) rfl rfl kn (ev_key_small (u := 8) (by decide)) (by omega)) ?_
  exact ev_act_endG (v' := (0, 4294967295, 0)) ha hnone hC ex_164 29 (fuel := 10) rfl
theorem mr_yes (l : Launch) {u : Nat} (h12 : u < 4096) (h8 : ev_pc u 12 ≤ 8) : ev_Met l ev_N164 (19 + 1) [(2, 83, 0), (0, u, 0)] 14699 133 ev_zM ((0, ev_fact (ev_pc u 12), 0), 14699, 133, ev_zQ) := by
  refine ev_Met_ofG (d := 19) (by decide +kernel) (Nat.le_of_ble_eq_true rfl) (by intro v hv; simp only [List.mem_cons, List.not_mem_nil, or_false] at hv; rcases hv with rfl | rfl <;> exact Nat.le_of_ble_eq_true rfl) ?_
  intro p e s m args below meth c D cA ads A Q ha
  have hC : ev_okL ev_MT ev_N164.1.cls (ev_N164.1.name == "<init>") ev_N164.2.2.2 ev_N164.2.1 evc_164 := ev_chk_ok _ ek_164
  have hnone := ev_none_ok l 19
  have hex := ev_ex_ok l 2000 19
  refine ev_act_step ha hnone hC ex_164 sk_164_0 (fun Kn Kj => eq_aload (v := (2, 83, 0)) rfl rfl) ?_
  refine ev_act_step ha hnone hC ex_164 sk_164_1 (fun Kn Kj => rfl) ?_
  refine ev_act_step ha hnone hC ex_164 sk_164_2 (fun Kn Kj => eq_putf (v := (0, 0, 0)) (by decide) mz83 rfl mz83l) ?_
  refine ev_act_weakH m_laid ?_
  refine ev_act_step ha hnone hC ex_164 sk_164_5 (fun Kn Kj => eq_iload (v := (0, u, 0)) rfl (Nat.zero_le _)) ?_
  have ku : Nat.mod (Nat.add u 2147483648) 4294967296 = u + 2147483648 := ev_key_small (by omega)
  refine ev_act_step ha hnone hC ex_164 sk_164_6 (fun Kn Kj => eq_ifc_lt_n (a := (0, u, 0)) rfl ku (by omega)) ?_
  refine ev_act_step ha hnone hC ex_164 sk_164_9 (fun Kn Kj => eq_iload (v := (0, u, 0)) rfl (Nat.zero_le _)) ?_
  refine ev_act_step ha hnone hC ex_164 sk_164_10 (fun Kn Kj => eq_aload (v := (2, 83, 0)) rfl rfl) ?_
  refine ev_act_step ha hex hC ex_164 sk_164_11 (fun Kn Kj => (eq_virt0 rfl (by decide) mz83 (ev_isV_ok m_oc)).trans (ev_back_yes rfl)) ?_
  refine ev_act_step ha hnone hC ex_164 sk_164_14 (fun Kn Kj => rfl) ?_
  refine ev_act_step ha hnone hC ex_164 sk_164_15 (fun Kn Kj => eq_bin (a := (0, 4095, 0)) (b := (0, 4294967295, 0)) (w := 4294963200) rfl rfl (by decide +kernel)) ?_
  refine ev_act_step ha hnone hC ex_164 sk_164_16 (fun Kn Kj => eq_bin (a := (0, u, 0)) (b := (0, 4294963200, 0)) (w := u &&& 4294963200) rfl rfl (ar_and (u := u) (by omega))) ?_
  have hw : u &&& 4294963200 = 0 := (ar_land (by omega)).mpr h12
  rw [hw]
  refine ev_act_step ha hnone hC ex_164 sk_164_17 (fun Kn Kj => eq_ifc_ne_n (a := (0, 0, 0)) rfl (ev_key_small (u := 0) (by decide)) (by omega)) ?_
  refine ev_act_step ha hnone hC ex_164 sk_164_20 (fun Kn Kj => eq_iload (v := (0, u, 0)) rfl (Nat.zero_le _)) ?_
  have hbs := ev_c1_ok (l := l) (d := 19) (k0 := 119) (as0 := [(0, u, 0)]) (ns0 := 14699) (nc0 := 133) (h0 := ev_zM) (r0 := ((0, ev_pc u 12, 0), 14699, 133, ev_zM)) (ev_none_ok l 19) (bs_x l h12 ev_zM)
  refine ev_act_step ha hbs hC ex_164 sk_164_21 (fun Kn Kj => (eq_stat1 rfl ev_c1_at).trans (ev_back_yes rfl)) ?_
  refine ev_act_step ha hnone hC ex_164 sk_164_24 (fun Kn Kj => rfl) ?_
  have hpl := ev_pc_le u 12
  have kn : Nat.mod (Nat.add (ev_pc u 12) 2147483648) 4294967296 = ev_pc u 12 + 2147483648 := ev_key_small (by omega)
  refine ev_act_jump ha hnone hC ex_164 sk_164_26 (fun Kn Kj => eq_icmp_le_y (a := (0, ev_pc u 12, 0)) (b := (0, 8, 0)) rfl rfl kn (ev_key_small (u := 8) (by decide)) (by omega)) ?_
  obtain ⟨vw, hlw, hw9⟩ := ev_isR_ok m_lw
  refine ev_act_step ha hnone hC ex_164 sk_164_31 (fun Kn Kj => eq_aload (v := (2, 83, 0)) rfl rfl) ?_
  refine ev_act_step ha hex hC ex_164 sk_164_32 (fun Kn Kj => (eq_virt0 rfl (by decide) mz83 hlw).trans (ev_back_no (by rw [hw9]; rfl))) ?_
  refine ev_act_step ha hnone hC ex_164 sk_164_35 (fun Kn Kj => rfl) ?_
  refine ev_act_step ha hnone hC ex_164 sk_164_36 (fun Kn Kj => eq_istore (Nat.le_of_ble_eq_true rfl) (Nat.zero_le _)) ?_
  refine ev_act_step ha hnone hC ex_164 sk_164_37 (fun Kn Kj => rfl) ?_
  refine ev_act_step ha hnone hC ex_164 sk_164_38 (fun Kn Kj => eq_istore (Nat.le_of_ble_eq_true rfl) (Nat.zero_le _)) ?_
  exact mo_head h12 h8 ha 12 0 (by omega)
set_option maxRecDepth 1000000 in
theorem m_hM : ev_hle 8 ev_zM ev_hM = true := by decide +kernel
theorem mr_met (l : Launch) {u : Nat} (hu : u < 4294967296) : ∃ g : ev_H, ev_Met l ev_N164 20 [(2, 83, 0), (0, u, 0)] 14699 133 ev_hM ((0, ev_oa u, 0), 14699, 133, g) := by
  by_cases h1 : u < 4096
  · by_cases h2 : ev_pc u 12 ≤ 8
    · rw [show ev_oa u = ev_fact (ev_pc u 12) from if_pos ⟨h1, h2⟩]
      exact ⟨_, (mr_yes l h1 h2).leH m_hM⟩
    · rw [show ev_oa u = 4294967295 from if_neg (fun z => h2 z.2)]
      exact ⟨_, (mr_no2 l h1 h2).leH m_hM⟩
  · rw [show ev_oa u = 4294967295 from if_neg (fun z => h1 z.1)]
    by_cases h3 : u < 2147483648
    · exact ⟨_, (mr_no1 l h3 h1).leH m_hM⟩
    · exact ⟨_, (mr_no0 l hu (by omega)).leH m_hM⟩
