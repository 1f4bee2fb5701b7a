/-! THE SECOND ENGINE: all paths; an int is exact, or a named variable and a number, or lies within bounds.
A value: (0, u, _) the int u; (1, i, c) the int whose key is the variable's i and c less 2^32; (2, k, _) the k-th cell; (3, _, _) null; (4, u, _) the long u; (5, _, _) any long; (6, i, _) the long that the variable i is; (7, _, _) nothing known; (9, _, _) nothing; (11, lo, hi) an int whose key lies in lo .. hi; (13, i + 8 * d, hi) an int whose key is at least the variable's i and d, at most hi; (12, i + 8 * d, lo) an int whose key and d are at most the variable's i, at least lo; (15, i + 8 * g, hi) an int from 0 on, its key at most hi, at least 1 where the variable i is above g; (14, i, u) an int that is 0 just where the variable i is u.
The variables' bounds: (lo, hi, i, d): lo .. hi, and at least the variable's i and d. A cell's tag: below 50 an object of that class; 50 int, 51 byte, 52 boolean array, element by element; 53 a long array [(0, n, 0)]; 54 int, 55 byte, 56 boolean array of n elements alike [(0, n, 0), bounds]; from 60 on what the predicate of that number says (from 999 on nothing). -/
abbrev e2_B : Type := Nat × Nat × Nat × Nat
abbrev e2_E : Type := List e2_B
abbrev e2_F : Type := ev_V → e2_E → ev_H → Bool
abbrev e2_S : Type := List ev_V → List ev_V → e2_E → ev_H → Bool
abbrev e2_Call : Type := Nat → List ev_V → e2_E → ev_H → e2_F → Bool
abbrev e2_Op : Type := e2_Call → e2_F → e2_S → (Nat → e2_S) → e2_S
abbrev e2_X : Type := Nat × e2_Op
noncomputable def e2_if (b k : Bool) : Bool := Bool.rec (motive := fun _ => Bool) false k b
noncomputable def e2_el (b k1 k2 : Bool) : Bool := Bool.rec (motive := fun _ => Bool) k2 k1 b
noncomputable def e2_1 (st : List ev_V) (k : ev_V → List ev_V → Bool) : Bool := List.rec (motive := fun _ => Bool) false (fun a r _ => k a r) st
noncomputable def e2_2 (st : List ev_V) (k : ev_V → ev_V → List ev_V → Bool) : Bool := e2_1 st fun a r => e2_1 r fun b r => k a b r
noncomputable def e2_3 (st : List ev_V) (k : ev_V → ev_V → ev_V → List ev_V → Bool) : Bool := e2_2 st fun a b r => e2_1 r fun c r => k a b c r
noncomputable def e2_0 (st : List ev_V) (k : Bool) : Bool := List.rec (motive := fun _ => Bool) k (fun _ _ _ => false) st
noncomputable def e2_p (v : ev_V) (k : Nat → Nat → Nat → Bool) : Bool := Prod.rec (motive := fun _ => Bool) (fun t q => Prod.rec (motive := fun _ => Bool) (fun a b => k t a b) q) v
noncomputable def e2_b (v : e2_B) (k : Nat → Nat → Nat → Nat → Bool) : Bool := Prod.rec (motive := fun _ => Bool) (fun t q => Prod.rec (motive := fun _ => Bool) (fun a q => Prod.rec (motive := fun _ => Bool) (fun b c => k t a b c) q) q) v
noncomputable def e2_setK {β : Type} (l : List β) : Nat → β → (List β → Bool) → Bool :=
  List.rec (motive := fun _ => Nat → β → (List β → Bool) → Bool) (fun _ _ _ => false) (fun x xs ih n v k => Nat.rec (motive := fun _ => Bool) (k (v :: xs)) (fun m _ => ih m v (fun ys => k (x :: ys))) n) l
noncomputable def e2_get {α : Type} (l : List α) : Nat → (α → Bool) → Bool :=
  List.rec (motive := fun _ => Nat → (α → Bool) → Bool) (fun _ _ => false) (fun x _ ih n k => Nat.rec (motive := fun _ => Bool) (k x) (fun m _ => ih m k) n) l
noncomputable def e2_snoc (l : e2_E) (x : e2_B) : (e2_E → Bool) → Bool := List.rec (motive := fun _ => (e2_E → Bool) → Bool) (fun k => k [x]) (fun y _ ih k => ih (fun ys => k (y :: ys))) l
noncomputable def e2_fv (v : ev_V) (k : ev_V → Bool) : Bool := e2_p v fun t a b => ev_fN t fun t => ev_fN a fun a => ev_fN b fun b => k (t, a, b)
/-- the bounds of an int -/
noncomputable def e2_rng (E : e2_E) (v : ev_V) (k : Nat → Nat → Bool) : Bool :=
  e2_p v fun t a b => e2_el (Nat.beq t 0) (ev_fN (Nat.mod (Nat.add a 2147483648) 4294967296) fun z => k z z)
    (e2_el (Nat.beq t 1) (e2_get E a fun B => e2_b B fun lo hi _ _ => e2_if (Nat.ble 4294967296 (Nat.add lo b)) (ev_fN (Nat.sub (Nat.add lo b) 4294967296) fun x => ev_fN (Nat.sub (Nat.add hi b) 4294967296) fun y => k x y))
      (e2_if (Nat.beq t 11) (k a b)))
/-- the bounds of an int, named or not; a floor's, and a conditional one's too -/
noncomputable def e2_up (E : e2_E) (v : ev_V) (k : Nat → Nat → Bool) : Bool :=
  e2_p v fun t a c => e2_el (Nat.beq t 13) (e2_get E (Nat.mod a 8) fun B => e2_b B fun lo _ _ _ => ev_fN (Nat.add lo (Nat.div a 8)) fun x => k x c)
    (e2_el (Nat.beq t 15) (e2_get E (Nat.mod a 8) fun B => e2_b B fun lo _ _ _ => e2_el (Nat.blt (Nat.add 2147483648 (Nat.div a 8)) lo) (k 2147483649 c) (k 2147483648 c)) (e2_rng E v k))
/-- an index: its bounds, from 0 on, below 65536 -/
noncomputable def e2_ix (E : e2_E) (v : ev_V) (k : Nat → Nat → Bool) : Bool :=
  e2_rng E v fun x y => e2_if (Nat.ble 2147483648 x) (e2_if (Nat.blt y 2147549184) (ev_fN (Nat.sub x 2147483648) fun i => ev_fN (Nat.sub y 2147483648) fun j => k i j))
noncomputable def e2_top : ev_V := (11, 0, 4294967295)
/-- two ints: exact if both are, else by a rule of the operation -/
noncomputable def e2_bin (o : Int32 → Int32 → Int32) (tr : ev_V → ev_V → Nat → Nat → Nat → Nat → ev_V) (E : e2_E) (a b : ev_V) (k : ev_V → Bool) : Bool :=
  e2_rng E a fun x y => e2_rng E b fun z w => e2_el (Nat.beq x y) (e2_el (Nat.beq z w) (ev_fN (ev_u (o (ev_i (Nat.add x 2147483648)) (ev_i (Nat.add z 2147483648)))) fun u => k (0, u, 0)) (e2_fv (tr a b x y z w) k)) (e2_fv (tr a b x y z w) k)
noncomputable def e2_un (o : Int32 → Int32) (tr : Nat → Nat → ev_V) (E : e2_E) (a : ev_V) (k : ev_V → Bool) : Bool :=
  e2_rng E a fun x y => e2_el (Nat.beq x y) (ev_fN (ev_u (o (ev_i (Nat.add x 2147483648)))) fun u => k (0, u, 0)) (e2_fv (tr x y) k)
-- the rules; c is a test that decides between two values
noncomputable def e2_ch (b : Bool) (v w : ev_V) : ev_V := Bool.rec (motive := fun _ => ev_V) w v b
noncomputable def tr_top (_ _ : ev_V) (_ _ _ _ : Nat) : ev_V := (11, 0, 4294967295)
noncomputable def tr_add (a b : ev_V) (x y z w : Nat) : ev_V :=
  e2_ch (Nat.ble 2147483648 (Nat.add x z) && Nat.blt (Nat.add y w) 6442450944)
    (e2_ch (Nat.beq a.1 1 && (Nat.beq z w && Nat.ble 2147483648 (Nat.add a.2.2 z))) (1, a.2.1, Nat.sub (Nat.add a.2.2 z) 2147483648)
      (e2_ch (Nat.beq b.1 1 && (Nat.beq x y && Nat.ble 2147483648 (Nat.add b.2.2 x))) (1, b.2.1, Nat.sub (Nat.add b.2.2 x) 2147483648)
        (11, Nat.sub (Nat.add x z) 2147483648, Nat.sub (Nat.add y w) 2147483648))) (11, 0, 4294967295)
noncomputable def tr_sub (a _b : ev_V) (x y z w : Nat) : ev_V :=
  e2_ch (Nat.ble w (Nat.add x 2147483648) && Nat.blt (Nat.add y 2147483648) (Nat.add 4294967296 z))
    (e2_ch (Nat.beq a.1 1 && (Nat.beq z w && Nat.ble z (Nat.add a.2.2 2147483648))) (1, a.2.1, Nat.sub (Nat.add a.2.2 2147483648) z)
      (11, Nat.sub (Nat.add x 2147483648) w, Nat.sub (Nat.add y 2147483648) z)) (11, 0, 4294967295)
/-- how far from 0 a number with these bounds can be -/
noncomputable def e2_far (x y : Nat) : Nat := Nat.max (Nat.sub 2147483648 x) (Nat.sub y 2147483648)
noncomputable def tr_mul (_ _ : ev_V) (x y z w : Nat) : ev_V :=
  e2_ch (Nat.ble 2147483648 x && (Nat.ble 2147483648 z && Nat.blt (Nat.mul (Nat.sub y 2147483648) (Nat.sub w 2147483648)) 2147483648))
    (11, Nat.add 2147483648 (Nat.mul (Nat.sub x 2147483648) (Nat.sub z 2147483648)), Nat.add 2147483648 (Nat.mul (Nat.sub y 2147483648) (Nat.sub w 2147483648)))
    (e2_ch (Nat.blt (Nat.mul (e2_far x y) (e2_far z w)) 2147483648) (11, Nat.sub 2147483648 (Nat.mul (e2_far x y) (e2_far z w)), Nat.add 2147483648 (Nat.mul (e2_far x y) (e2_far z w))) (11, 0, 4294967295))
noncomputable def tr_and (_ _ : ev_V) (x y z w : Nat) : ev_V :=
  e2_ch (Nat.ble 2147483648 z) (e2_ch (Nat.ble 2147483648 x && Nat.ble y w) (11, 2147483648, y) (11, 2147483648, w)) (e2_ch (Nat.ble 2147483648 x) (11, 2147483648, y) (11, 0, 4294967295))
/-- the least power of 2 above a number -/
noncomputable def e2_pw (n : Nat) : Nat := Nat.pow 2 (Nat.succ (Nat.log2 n))
noncomputable def tr_or (_ _ : ev_V) (x y z w : Nat) : ev_V :=
  e2_ch (Nat.ble 2147483648 x && Nat.ble 2147483648 z) (11, 2147483648, Nat.sub (Nat.add 2147483648 (e2_pw (Nat.sub (Nat.max y w) 2147483648))) 1) (11, 0, 4294967295)
noncomputable def tr_shr (_ _ : ev_V) (x y z w : Nat) : ev_V :=
  e2_ch (Nat.ble 2147483648 x) (e2_ch (Nat.beq z w && (Nat.ble 2147483648 z && Nat.blt z 2147483680)) (11, Nat.add 2147483648 (Nat.div (Nat.sub x 2147483648) (Nat.pow 2 (Nat.sub z 2147483648))), Nat.add 2147483648 (Nat.div (Nat.sub y 2147483648) (Nat.pow 2 (Nat.sub z 2147483648)))) (11, 2147483648, y)) (11, 0, 4294967295)
noncomputable def tr_div (_ _ : ev_V) (x y z _w : Nat) : ev_V :=
  e2_ch (Nat.ble 2147483648 x && Nat.blt 2147483648 z) (11, 2147483648, Nat.add 2147483648 (Nat.div (Nat.sub y 2147483648) (Nat.sub z 2147483648))) (11, 0, 4294967295)
noncomputable def tr_rem (_ _ : ev_V) (x y z w : Nat) : ev_V :=
  e2_ch (Nat.blt 2147483648 z) (e2_ch (Nat.ble 2147483648 x) (e2_ch (Nat.blt y w) (11, 2147483648, y) (11, 2147483648, Nat.sub w 1)) (11, Nat.sub 4294967297 w, Nat.sub w 1)) (11, 0, 4294967295)
noncomputable def tr_neg (x y : Nat) : ev_V := e2_ch (Nat.ble 1 x) (11, Nat.sub 4294967296 y, Nat.sub 4294967296 x) (11, 0, 4294967295)
noncomputable def tr_i2b (_ _ : Nat) : ev_V := (11, 2147483520, 2147483775)
noncomputable def tr_min (_ _ : ev_V) (x y z w : Nat) : ev_V := (11, Nat.min x z, Nat.min y w)
noncomputable def tr_max (_ _ : ev_V) (x y z w : Nat) : ev_V := (11, Nat.max x z, Nat.max y w)
/-- a name for what has none -/
noncomputable def e2_nm (E : e2_E) (v : ev_V) (k : ev_V → e2_E → Bool) : Bool :=
  e2_p v fun t a b => e2_el (Nat.beq t 11) (ev_fN E.length fun n => e2_snoc E (a, b, n, 0) fun E' => k (1, n, 4294967296) E')
    (e2_el (Nat.beq t 13) (e2_get E (Nat.mod a 8) fun B => e2_b B fun lo _ _ _ => ev_fN (Nat.add lo (Nat.div a 8)) fun lo' => ev_fN (Nat.mod a 8) fun i => ev_fN (Nat.div a 8) fun d => ev_fN E.length fun n => e2_snoc E (lo', b, i, d) fun E' => k (1, n, 4294967296) E')
      (e2_el (Nat.beq t 5) (ev_fN E.length fun n => e2_snoc E (0, 18446744073709551615, n, 0) fun E' => k (6, n, 0) E') (k v E)))
noncomputable def e2_sh (lo c : Nat) : Nat := Nat.sub (Nat.add 4294967296 lo) c
theorem e2_sh_eq (lo c : Nat) : e2_sh lo c = 4294967296 + lo - c := rfl
/-- new bounds for a variable; where they are empty no run comes here -/
noncomputable def e2_sb (E : e2_E) (v : ev_V) (lo hi : Nat) (k : e2_E → Bool) : Bool :=
  e2_el (Nat.blt hi lo) true (e2_p v fun t a c => e2_el (Nat.beq t 1) (e2_el (Nat.ble c (Nat.add 4294967296 lo)) (e2_get E a fun B => e2_b B fun _ _ i d => ev_fN (e2_sh lo c) fun lo' => ev_fN (e2_sh hi c) fun hi' => e2_setK E a (lo', hi', i, d) k) (k E)) (k E))
noncomputable def e2_mx (a b : Nat) : Nat := Bool.rec (motive := fun _ => Nat) a b (Nat.ble a b)
noncomputable def e2_mn (a b : Nat) : Nat := Bool.rec (motive := fun _ => Nat) b a (Nat.ble a b)
/-- the bounds where a comparison holds -/
noncomputable def e2_ref (c : ClassFile.Cond) (a b : ev_V) (x y z w : Nat) (E : e2_E) (k : e2_E → Bool) : Bool := match c with
  | .lt => e2_sb E a x (e2_mn y (Nat.sub w 1)) fun E => e2_sb E b (e2_mx z (Nat.succ x)) w k
  | .le => e2_sb E a x (e2_mn y w) fun E => e2_sb E b (e2_mx z x) w k
  | .gt => e2_sb E a (e2_mx x (Nat.succ z)) y fun E => e2_sb E b z (e2_mn w (Nat.sub y 1)) k
  | .ge => e2_sb E a (e2_mx x z) y fun E => e2_sb E b z (e2_mn w y) k
  | .eq => e2_sb E a (e2_mx x z) (e2_mn y w) fun E => e2_sb E b (e2_mx x z) (e2_mn y w) k
  | .ne => e2_el (Nat.beq z w) (e2_el (Nat.beq x z) (e2_sb E a (Nat.succ x) y k) (e2_el (Nat.beq y z) (e2_sb E a x (Nat.sub y 1) k) (e2_el (Nat.beq z 2147483648) (e2_if (e2_sb E a x 2147483647 k) (e2_sb E a 2147483649 y k)) (k E)))) (k E)
def e2_neg (c : ClassFile.Cond) : ClassFile.Cond := match c with
  | .eq => .ne | .ne => .eq | .lt => .ge | .ge => .lt | .gt => .le | .le => .gt
/-- 0: it does not hold, 1: it holds, 2: open -/
noncomputable def e2_dl (x y z w : Nat) (k1 k0 k2 : Bool) : Bool := e2_el (Nat.blt y z) k1 (e2_el (Nat.ble w x) k0 k2)
noncomputable def e2_de (x y z w : Nat) (k1 k0 k2 : Bool) : Bool := e2_el (Nat.blt y z) k0 (e2_el (Nat.blt w x) k0 (e2_el (Nat.beq x y) (e2_el (Nat.beq z w) k1 k2) k2))
noncomputable def e2_dc (c : ClassFile.Cond) (x y z w : Nat) (k1 k0 k2 : Bool) : Bool := match c with
  | .eq => e2_de x y z w k1 k0 k2
  | .ne => e2_de x y z w k0 k1 k2
  | .lt => e2_dl x y z w k1 k0 k2
  | .ge => e2_dl x y z w k0 k1 k2
  | .gt => e2_dl z w x y k1 k0 k2
  | .le => e2_dl z w x y k0 k1 k2
noncomputable def e2_cmp (c : ClassFile.Cond) (E : e2_E) (a b : ev_V) (K1 K0 : e2_E → Bool) : Bool :=
  e2_rng E a fun x y => e2_rng E b fun z w => e2_dc c x y z w (K1 E) (K0 E) (e2_if (e2_ref c a b x y z w E K1) (e2_ref (e2_neg c) a b x y z w E K0))
noncomputable def e2_isI (t : Nat) : Bool := Nat.beq t 0 || (Nat.beq t 1 || Nat.beq t 11)
noncomputable def e2_isL (t : Nat) : Bool := Nat.beq t 4 || (Nat.beq t 5 || Nat.beq t 6)
noncomputable def e2_cell (h : ev_H) (v : ev_V) (k : Nat → Nat → List ev_V → Bool) : Bool :=
  e2_p v fun t a _ => e2_if (Nat.beq t 2) (e2_if (Nat.blt a 133) (ev_tget 8 h a fun c => Prod.rec (motive := fun _ => Bool) (fun tag l => k a tag l) c))
noncomputable def e2_put (h : ev_H) (a tag : Nat) (l : List ev_V) (j : Nat) (v : ev_V) (k : ev_H → Bool) : Bool := e2_setK l j v fun l' => ev_tset 8 h a (tag, l') k
/-- does a value fit a field or an answer: kinds 0 int, 1 boolean, 2 reference, 3 long -/
noncomputable def e2_kd (E : e2_E) (kd : Nat) (v : ev_V) (k : Bool) : Bool := match kd with
  | 0 => e2_if (e2_isI v.1) k
  | 1 => e2_rng E v fun x y => e2_if (Nat.ble 2147483648 x) (e2_if (Nat.ble y 2147483649) k)
  | 2 => e2_if (Nat.beq v.1 2 || Nat.beq v.1 3) k
  | _ => e2_if (e2_isL v.1) k
noncomputable def e2_cut (n : Nat) : List ev_V → List ev_V → (List ev_V → List ev_V → Bool) → Bool :=
  Nat.rec (motive := fun _ => List ev_V → List ev_V → (List ev_V → List ev_V → Bool) → Bool) (fun acc st k => k acc st) (fun _ ih acc st k => e2_1 st fun v r => ih (v :: acc) r k) n
/-- the words of a stack -/
noncomputable def e2_wd (r : List ev_V) : Nat := List.rec (motive := fun _ => Nat) 0 (fun v _ ih => Nat.add ih (Bool.rec (motive := fun _ => Nat) 1 2 (e2_isL v.1))) r
noncomputable def e2_small (r : List ev_V) : Bool := Nat.ble (e2_wd r) 8
/-- no long lies just ahead of this local -/
noncomputable def e2_nl (al : List ev_V) (i : Nat) (k : Bool) : Bool := Nat.rec (motive := fun _ => Bool) k (fun m _ => e2_get al m fun v => e2_if (!(e2_isL v.1)) k) i
-- the operations
noncomputable def o2_push (v : ev_V) : e2_Op := fun _ _ Kn _ al st E h => Kn al (v :: st) E h
noncomputable def o2_iload (i : Nat) : e2_Op := fun _ _ Kn _ al st E h => e2_get al i fun v => e2_p v fun t _ _ => e2_el (Nat.ble t 1) (Kn al (v :: st) E h) (e2_if (Nat.beq t 11 || Nat.beq t 13) (e2_nm E v fun v' E' => e2_setK al i v' fun al' => Kn al' (v' :: st) E' h))
noncomputable def o2_aload (i : Nat) : e2_Op := fun _ _ Kn _ al st E h => e2_get al i fun v => e2_p v fun t _ _ => e2_if (Nat.beq t 2) (Kn al (v :: st) E h)
noncomputable def o2_lload (i : Nat) : e2_Op := fun _ _ Kn _ al st E h => e2_get al i fun v => e2_p v fun t _ _ => e2_if (e2_isL t) (e2_nm E v fun v' E' => e2_setK al i v' fun al' => Kn al' (v' :: st) E' h)
noncomputable def o2_istore (i : Nat) : e2_Op := fun _ _ Kn _ al st E h => e2_1 st fun v r => e2_p v fun t _ _ => e2_if (e2_isI t) (e2_nl al i (e2_setK al i v fun al' => Kn al' r E h))
noncomputable def o2_astore (i : Nat) : e2_Op := fun _ _ Kn _ al st E h => e2_1 st fun v r => e2_p v fun t _ _ => e2_if (Nat.beq t 2) (e2_nl al i (e2_setK al i v fun al' => Kn al' r E h))
noncomputable def o2_lstore (i : Nat) : e2_Op := fun _ _ Kn _ al st E h => e2_1 st fun v r => e2_p v fun t _ _ => e2_if (e2_isL t) (e2_nl al i (e2_setK al i v fun al' => e2_setK al' (Nat.succ i) (9, 0, 0) fun al'' => Kn al'' r E h))
noncomputable def o2_iinc (i n : Nat) : e2_Op := fun _ _ Kn _ al st E h => e2_get al i fun v => e2_bin eb_add tr_add E v (0, n, 0) fun w => e2_nl al i (e2_setK al i w fun al' => Kn al' st E h)
noncomputable def o2_bin (o : Int32 → Int32 → Int32) (tr : ev_V → ev_V → Nat → Nat → Nat → Nat → ev_V) : e2_Op := fun _ _ Kn _ al st E h => e2_2 st fun b a r => e2_bin o tr E a b fun w => Kn al (w :: r) E h
noncomputable def o2_div (o : Int32 → Int32 → Int32) (tr : ev_V → ev_V → Nat → Nat → Nat → Nat → ev_V) : e2_Op := fun _ _ Kn _ al st E h => e2_2 st fun b a r => e2_rng E b fun z w => e2_if (Nat.blt 2147483648 z || Nat.blt w 2147483648) (e2_bin o tr E a b fun v => Kn al (v :: r) E h)
noncomputable def o2_mm (o : Int32 → Int32 → Int32) (tr : ev_V → ev_V → Nat → Nat → Nat → Nat → ev_V) : e2_Op := fun _ _ Kn _ al st E h => e2_2 st fun b a r => e2_if (e2_small r) (e2_bin o tr E a b fun v => Kn al (v :: r) E h)
noncomputable def o2_un (o : Int32 → Int32) (tr : Nat → Nat → ev_V) : e2_Op := fun _ _ Kn _ al st E h => e2_1 st fun a r => e2_un o tr E a fun w => Kn al (w :: r) E h
noncomputable def o2_dup : e2_Op := fun _ _ Kn _ al st E h => e2_1 st fun a r => e2_p a fun t _ _ => e2_if (!(e2_isL t)) (Kn al (a :: a :: r) E h)
noncomputable def o2_dup2 : e2_Op := fun _ _ Kn _ al st E h => e2_2 st fun a b r => e2_p a fun t _ _ => e2_p b fun t2 _ _ => e2_if (!(e2_isL t)) (e2_if (!(e2_isL t2)) (Kn al (a :: b :: a :: b :: r) E h))
noncomputable def o2_pop : e2_Op := fun _ _ Kn _ al st E h => e2_1 st fun a r => e2_p a fun t _ _ => e2_if (!(e2_isL t)) (Kn al r E h)
noncomputable def o2_icmp (c : ClassFile.Cond) (t : Nat) : e2_Op := fun _ _ Kn Kj al st E h => e2_2 st fun b a r => e2_cmp c E a b (fun E => Kj t al r E h) (fun E => Kn al r E h)
/-- an int that is 0 just where a variable is u -/
noncomputable def e2_z (E : e2_E) (i u : Nat) (K1 K0 : e2_E → Bool) : Bool := e2_get E i fun B => e2_b B fun lo hi q d => e2_el (Nat.blt u lo) (K0 E) (e2_el (Nat.blt hi u) (K0 E) (e2_el (Nat.beq lo hi) (K1 E) (e2_if (e2_setK E i (u, u, q, d) K1) (K0 E))))
noncomputable def o2_ifc (c : ClassFile.Cond) (t : Nat) : e2_Op := fun _ _ Kn Kj al st E h => e2_1 st fun a r => e2_p a fun tg i u => e2_el (Nat.beq tg 14)
  (match c with | .eq => e2_z E i u (fun E => Kj t al r E h) (fun E => Kn al r E h) | .ne => e2_z E i u (fun E => Kn al r E h) (fun E => Kj t al r E h) | _ => false)
  (e2_cmp c E a (0, 0, 0) (fun E => Kj t al r E h) (fun E => Kn al r E h))
noncomputable def o2_goto (t : Nat) : e2_Op := fun _ _ _ Kj al st E h => Kj t al st E h
/-- keys and targets; the last number is the default -/
noncomputable def e2_sw (E : e2_E) (a : ev_V) (x y : Nat) (K : Nat → e2_E → Bool) (ts : List (Nat × Nat)) : Bool := List.rec (motive := fun _ => Bool) true (fun q _ ih => e2_el (Nat.blt q.1 x) ih (e2_el (Nat.blt y q.1) ih (e2_if (e2_sb E a q.1 q.1 fun E' => K q.2 E') ih))) ts
noncomputable def e2_hit (x : Nat) (ts : List (Nat × Nat)) : Bool := List.rec (motive := fun _ => Bool) false (fun q _ ih => e2_el (Nat.beq q.1 x) true ih) ts
noncomputable def o2_sw (ts : List (Nat × Nat)) (d : Nat) : e2_Op := fun _ _ _ Kj al st E h => e2_1 st fun a r => e2_rng E a fun x y => e2_if (e2_sw E a x y (fun t E => Kj t al r E h) ts) (e2_el (Nat.beq x y) (e2_el (e2_hit x ts) true (Kj d al r E h)) (Kj d al r E h))
noncomputable def o2_getf (ci k : Nat) : e2_Op := fun _ _ Kn _ al st E h => e2_1 st fun o r => e2_cell h o fun a tag l => e2_if (Nat.beq tag ci) (e2_get l k fun v => e2_p v fun t _ _ => e2_el (Nat.beq t 11 || (Nat.beq t 13 || Nat.beq t 5)) (e2_nm E v fun v' E' => e2_put h a tag l k v' fun h' => Kn al (v' :: r) E' h') (e2_if (!(Nat.beq t 7)) (Kn al (v :: r) E h)))
noncomputable def o2_putf (ci k kd : Nat) : e2_Op := fun _ _ Kn _ al st E h => e2_2 st fun v o r => e2_cell h o fun a tag l => e2_if (Nat.beq tag ci) (e2_kd E kd v (e2_put h a tag l k v fun h' => Kn al r E h'))
/-- the bounds of n ints of a row together -/
noncomputable def e2_hull (E : e2_E) (n : Nat) : List ev_V → Nat → Nat → (Nat → Nat → Bool) → Bool :=
  Nat.rec (motive := fun _ => List ev_V → Nat → Nat → (Nat → Nat → Bool) → Bool) (fun _ x y k => k x y) (fun _ ih l x y k => e2_1 l fun v r => e2_up E v fun z w => ev_fN (e2_mn x z) fun x' => ev_fN (e2_mx y w) fun y' => ih r x' y' k) n
noncomputable def e2_drop (n : Nat) : List ev_V → (List ev_V → Bool) → Bool :=
  Nat.rec (motive := fun _ => List ev_V → (List ev_V → Bool) → Bool) (fun f k => k f) (fun _ ih f k => e2_1 f fun _ f' => ih f' k) n
noncomputable def o2_ald0 (lo hi : Nat) : e2_Op := fun _ _ Kn _ al st E h => e2_2 st fun iv o r => e2_cell h o fun a tag l => e2_ix E iv fun i j =>
  e2_el (Nat.ble lo tag && Nat.ble tag hi)
    (e2_el (Nat.beq i j) (e2_get l i fun v => e2_p v fun t _ _ => e2_el (Nat.beq t 11 || Nat.beq t 13) (e2_nm E v fun v' E' => e2_put h a tag l i v' fun h' => Kn al (v' :: r) E' h') (e2_el (Nat.beq t 15) (e2_up E v fun x y => e2_el (Nat.beq x 2147483649) (e2_nm E (11, x, y) fun v' E' => e2_put h a tag l i v' fun h' => Kn al (v' :: r) E' h') (Kn al ((11, x, y) :: r) E h)) (e2_if (Nat.ble t 1) (Kn al (v :: r) E h))))
      (e2_drop i l fun l' => e2_hull E (Nat.succ (Nat.sub j i)) l' 4294967295 0 fun x y => Kn al ((11, x, y) :: r) E h))
    (e2_if (Nat.ble (Nat.add lo 4) tag && Nat.ble tag (Nat.add hi 4)) (e2_2 l fun n v r' => e2_p n fun _ n _ => e2_if (Nat.blt j n) (Kn al (v :: r) E h)))
/-- the same, and of read-only rows (57, 58) too -/
noncomputable def o2_ald (lo hi : Nat) : e2_Op := fun call F Kn Kj al st E h => e2_el (Nat.beq lo 50)
  (e2_2 st fun iv o r => e2_cell h o fun a tag l =>
    e2_el (Nat.beq tag 58) (e2_ix E iv fun i j => e2_el (Nat.beq i j) (e2_get l i fun v => e2_p v fun t _ _ => e2_el (Nat.beq t 11 || Nat.beq t 13) (e2_nm E v fun v' E' => e2_put h a tag l i v' fun h' => Kn al (v' :: r) E' h') (e2_if (Nat.ble t 1) (Kn al (v :: r) E h)))
        (e2_drop i l fun l' => e2_hull E (Nat.succ (Nat.sub j i)) l' 4294967295 0 fun x y => Kn al ((11, x, y) :: r) E h))
      (e2_el (Nat.beq tag 57) (e2_ix E iv fun _ j => e2_2 l fun n v _ => e2_p n fun _ n _ => e2_if (Nat.blt j n) (Kn al (v :: r) E h))
        (o2_ald0 lo hi call F Kn Kj al st E h)))
  (o2_ald0 lo hi call F Kn Kj al st E h)
/-- n ints of a row that take a value as it is -/
noncomputable def e2_weak (n : Nat) (x y : Nat) : List ev_V → Bool → Bool :=
  Nat.rec (motive := fun _ => List ev_V → Bool → Bool) (fun _ k => k) (fun _ ih l k => e2_1 l fun v r => e2_p v fun t lo hi => e2_if (Nat.beq t 11) (e2_if (Nat.ble lo x) (e2_if (Nat.ble y hi) (ih r k)))) n
noncomputable def e2_ast (tag : Nat) (E : e2_E) (h : ev_H) (a tg : Nat) (l : List ev_V) (iv v : ev_V) (k : ev_H → Bool) : Bool := e2_ix E iv fun i j => 
  e2_el (Nat.beq tg tag) (e2_el (Nat.beq i j) (e2_put h a tg l i v k) (e2_rng E v fun x y => e2_drop i l fun l' => e2_weak (Nat.succ (Nat.sub j i)) x y l' (k h)))
    (e2_if (Nat.beq tg (Nat.add tag 4)) (e2_2 l fun n u _ => e2_p n fun _ n _ => e2_if (Nat.blt j n) (e2_rng E v fun x y => e2_p u fun _ lo hi => e2_if (Nat.ble lo x) (e2_if (Nat.ble y hi) (k h)))))
/-- the second variable, laid at its own place in a reader's row of ways, while own may still be written: the row stands read-only from there on -/
noncomputable def e2_v1 (v : ev_V) : Bool := e2_p v fun t a c => Nat.beq t 1 && (Nat.beq a 1 && Nat.beq c 4294967296)
noncomputable def e2_sp (h : ev_H) (a tag : Nat) (iv v : ev_V) : Bool := Nat.beq tag 54 && ((Nat.beq a 50 || Nat.beq a 68) && (e2_v1 iv && (e2_v1 v && ev_tget 8 h (Nat.succ a) fun c => Nat.beq c.1 54)))
noncomputable def o2_iast : e2_Op := fun _ _ Kn _ al st E h => e2_3 st fun v i o r => e2_cell h o fun a tag l => e2_if (e2_isI v.1) (e2_el (e2_sp h a tag i v)
  (e2_ix E i fun _ j => e2_if (Nat.ble j 20) (e2_2 l fun n u _ => e2_p n fun _ n0 _ => e2_if (Nat.blt j n0) (e2_rng E v fun x y => e2_p u fun _ lo hi => e2_if (Nat.ble lo x) (e2_if (Nat.ble y hi) (ev_tset 8 h a (57, [n, u, (1, 1, 4294967296)]) fun h' => Kn al r E h')))))
  (e2_ast 50 E h a tag l i v fun h' => Kn al r E h'))
/-- a value narrowed: as it is, if it lies within the bounds -/
noncomputable def e2_nar (E : e2_E) (lo hi : Nat) (v : ev_V) (k : ev_V → Bool) : Bool := e2_rng E v fun x y => e2_el (Nat.ble lo x && Nat.ble y hi) (k v) (k (11, lo, hi))
noncomputable def o2_bast : e2_Op := fun _ _ Kn _ al st E h => e2_3 st fun v i o r => e2_cell h o fun a tag l =>
  e2_el (Nat.beq tag 51 || Nat.beq tag 55) (e2_nar E 2147483520 2147483775 v fun v' => e2_ast 51 E h a tag l i v' fun h' => Kn al r E h')
    (e2_nar E 2147483648 2147483649 v fun v' => e2_ast 52 E h a tag l i v' fun h' => Kn al r E h')
noncomputable def o2_lald : e2_Op := fun _ _ Kn _ al st E h => e2_2 st fun iv o r => e2_cell h o fun _ tag l => e2_el (Nat.beq tag 59) (e2_ix E iv fun i j => e2_if (Nat.beq i j) (e2_get l i fun v => e2_if (Nat.beq v.1 4) (Kn al (v :: r) E h))) (e2_if (Nat.beq tag 53) (e2_ix E iv fun _ j => e2_1 l fun n _ => e2_p n fun _ n _ => e2_if (Nat.blt j n) (Kn al ((5, 0, 0) :: r) E h)))
noncomputable def o2_last : e2_Op := fun _ _ Kn _ al st E h => e2_3 st fun v iv o r => e2_cell h o fun _ tag l => e2_if (Nat.beq tag 53) (e2_if (e2_isL v.1) (e2_ix E iv fun _ j => e2_1 l fun n _ => e2_p n fun _ n _ => e2_if (Nat.blt j n) (Kn al r E h)))
noncomputable def o2_alen : e2_Op := fun _ _ Kn _ al st E h => e2_1 st fun o r => e2_cell h o fun _ tag l => e2_el (Nat.beq tag 59) (ev_fN l.length fun n => e2_if (Nat.blt n 65536) (Kn al ((0, n, 0) :: r) E h)) <| e2_if (Nat.ble 50 tag) (e2_if (Nat.ble tag 56) (e2_el (Nat.ble tag 52) (ev_fN l.length fun n => e2_if (Nat.blt n 65536) (Kn al ((0, n, 0) :: r) E h)) (e2_1 l fun n _ => e2_p n fun _ n _ => e2_if (Nat.blt n 65536) (Kn al ((0, n, 0) :: r) E h))))
noncomputable def o2_lcmp : e2_Op := fun _ _ Kn _ al st E h => e2_2 st fun b a r => e2_p a fun t i _ => e2_p b fun t2 u _ => e2_if (e2_isL t) (e2_if (e2_isL t2) (e2_el (Nat.beq t 6 && (Nat.beq t2 4 && Nat.blt u 18446744073709551616)) (Kn al ((14, i, u) :: r) E h) (e2_el (Nat.beq t 4 && (Nat.beq t2 4 && (Nat.blt i 18446744073709551616 && Nat.blt u 18446744073709551616))) (e2_el (Nat.beq i u) (Kn al ((0, 0, 0) :: r) E h) (e2_if (Kn al ((0, 4294967295, 0) :: r) E h) (Kn al ((0, 1, 0) :: r) E h))) (Kn al ((11, 2147483647, 2147483649) :: r) E h))))
noncomputable def o2_l2 : e2_Op := fun _ _ Kn _ al st E h => e2_2 st fun b a r => e2_if (e2_isL a.1) (e2_if (e2_isL b.1) (Kn al ((5, 0, 0) :: r) E h))
noncomputable def o2_lsh : e2_Op := fun _ _ Kn _ al st E h => e2_2 st fun b a r => e2_if (e2_isL a.1) (e2_if (e2_isI b.1) (Kn al ((5, 0, 0) :: r) E h))
noncomputable def o2_i2l : e2_Op := fun _ _ Kn _ al st E h => e2_1 st fun a r => e2_if (e2_isI a.1) (Kn al ((5, 0, 0) :: r) E h)
/-- behind a call: an answer under a ceiling is bounds here -/
noncomputable def e2_bk (v : ev_V) (Kn : e2_S) : e2_S := fun al r E h => e2_p v fun t a b => e2_el (Nat.beq t 9) (Kn al r E h) (e2_el (Nat.beq t 12) (e2_get E (Nat.mod a 8) fun B => e2_b B fun _ hi _ _ => ev_fN (Nat.sub hi (Nat.div a 8)) fun y => Kn al ((11, b, y) :: r) E h) (Kn al (v :: r) E h))
noncomputable def o2_virt (k n ci : Nat) : e2_Op := fun call _ Kn _ al st E h => e2_cut n [] st fun as q => e2_1 q fun o r => e2_cell h o fun _ tag _ => e2_if (Nat.beq tag ci) (e2_if (e2_small r) (call k (o :: as) E h fun v E h => e2_bk v Kn al r E h))
noncomputable def o2_stat (k n : Nat) : e2_Op := fun call _ Kn _ al st E h => e2_cut n [] st fun as r => e2_if (e2_small r) (call k as E h fun v E h => e2_bk v Kn al r E h)
noncomputable def o2_copy : e2_Op := fun _ _ Kn _ al st E h => e2_3 st fun nv dp d r => e2_2 r fun sp o r => e2_if (e2_small r) (e2_cell h o fun a0 tag0 f => e2_cell h d fun a1 tag1 g => e2_if (Nat.beq tag0 54) (e2_if (Nat.beq tag1 54) (e2_if (!(Nat.beq a0 a1)) (e2_ix E sp fun _ s => e2_ix E dp fun _ t => e2_ix E nv fun n0 n1 => e2_if (Nat.beq n0 n1) (e2_2 f fun N0 u _ => e2_2 g fun N1 v _ => e2_p N0 fun _ N0 _ => e2_p N1 fun _ N1 _ => e2_if (Nat.ble (Nat.add s n0) N0) (e2_if (Nat.ble (Nat.add t n0) N1) (e2_p u fun _ x y => e2_p v fun _ lo hi => e2_if (Nat.ble lo x) (e2_if (Nat.ble y hi) (Kn al r E h)))))))))
noncomputable def o2_iret (kd : Nat) : e2_Op := fun _ F _ _ _ st E h => e2_1 st fun v r => e2_kd E kd v (e2_0 r (F v E h))
noncomputable def o2_vret : e2_Op := fun _ F _ _ _ st E h => e2_0 st (F (9, 0, 0) E h)
noncomputable def o2_none : e2_Op := fun _ _ _ _ _ _ _ _ => false
/-- the top of the stack, a variable within few numbers: each of them -/
noncomputable def e2_all (n : Nat) (k : Nat → Bool) : Bool := Nat.rec (motive := fun _ => Bool) (k 0) (fun m ih => e2_if (k (Nat.succ m)) ih) n
noncomputable def e2_spl (E : e2_E) (st : List ev_V) (k : List ev_V → e2_E → Bool) : Bool := e2_1 st fun v r => e2_p v fun t _ _ => e2_el (Nat.beq t 1) (e2_rng E v fun x y => e2_if (Nat.ble (Nat.sub y x) 1200) (e2_all (Nat.sub y x) fun j => ev_fN (Nat.add x j) fun z => e2_sb E v z z fun E' => ev_fN (Nat.mod (Nat.add z 2147483648) 4294967296) fun u => k ((0, u, 0) :: r) E')) (k st E)
/-- an operation, and then the split -/
noncomputable def o2_S (op : e2_Op) : e2_Op := fun call F Kn Kj al st E h => op call F (fun al st E h => e2_spl E st fun st' E' => Kn al st' E' h) Kj al st E h
noncomputable def e2_seek (l : List e2_X) (t : Nat) : List e2_X := List.rec (motive := fun _ => List e2_X) [] (fun x xs ih => Bool.rec (motive := fun _ => List e2_X) ih (x :: xs) (Nat.beq x.1 t)) l
noncomputable def e2_run (call : e2_Call) (F : e2_F) (code : List e2_X) (bp : Nat → Bool) (cut : Nat → e2_S) (n : Nat) : List e2_X → e2_S :=
  Nat.rec (motive := fun _ => List e2_X → e2_S) (fun _ _ _ _ _ => false) (fun _ ih cs => List.rec (motive := fun _ => e2_S) (fun _ _ _ _ => false) (fun x rest _ => fun al st E h => e2_el (bp x.1) (cut x.1 al st E h) (x.2 call F (ih rest) (fun t => ih (e2_seek code t)) al st E h)) cs) n
/-- the same, with one step ahead of the first look -/
noncomputable def e2_runM (call : e2_Call) (F : e2_F) (code : List e2_X) (bp : Nat → Bool) (cut : Nat → e2_S) (n : Nat) (cs : List e2_X) : e2_S :=
  List.rec (motive := fun _ => e2_S) (fun _ _ _ _ => false) (fun x rest _ => x.2 call F (e2_run call F code bp cut n rest) (fun t => e2_run call F code bp cut n (e2_seek code t))) cs
noncomputable def e2_pad (n : Nat) : List ev_V → (List ev_V → Bool) → Bool :=
  Nat.rec (motive := fun _ => List ev_V → (List ev_V → Bool) → Bool) (fun l k => e2_0 l (k [])) (fun _ ih l k => List.rec (motive := fun _ => Bool) (ih [] fun ys => k ((9, 0, 0) :: ys)) (fun x xs _ => ih xs fun ys => k (x :: ys)) l) n
/-- arguments as locals: a long takes two -/
noncomputable def e2_exp (l : List ev_V) : List ev_V := List.rec (motive := fun _ => List ev_V) [] (fun x _ ih => Bool.rec (motive := fun _ => List ev_V) (x :: ih) (x :: (9, 0, 0) :: ih) (e2_isL x.1)) l
noncomputable def e2_exec (XT : ev_T (Nat × List e2_X) 9) (fuel : Nat) (d : Nat) : e2_Call :=
  Nat.rec (motive := fun _ => e2_Call) (fun _ _ _ _ _ => false) (fun _ ih k args E h F => ev_tget 9 XT k fun M => Prod.rec (motive := fun _ => Bool) (fun n code => e2_pad n (e2_exp args) fun al => e2_run ih F code (fun _ => false) (fun _ _ _ _ _ => false) fuel code al [] E h) M) d
