/-! THE ENGINE: an interpreter of the bytecode over number-coded values.
A value: (0, u, _) the int u (mod 2^32); (1, lo, hi) an int whose key (value + 2^31) lies in lo .. hi; (2, k, _) a reference to the k-th cell; (3, _, _) null; (4, u, _) the long u; (9, _, _) nothing. All that is kept is worked out first (the recursors and continuations force it), so that the kernel's terms stay small. -/
abbrev ev_V : Type := Nat × Nat × Nat
abbrev ev_C : Type := Nat × List ev_V
noncomputable def ev_T (α : Type) (n : Nat) : Type := Nat.rec (motive := fun _ => Type) α (fun _ T => T × T) n
noncomputable def ev_tget {α β : Type} (n : Nat) : ev_T α n → Nat → (α → β) → β :=
  Nat.rec (motive := fun n => ev_T α n → Nat → (α → β) → β) (fun t _ k => k t) (fun n ih t i k => Prod.rec (motive := fun _ => β) (fun (l : ev_T α n) (r : ev_T α n) => Bool.rec (motive := fun _ => β) (ih l (Nat.div i 2) k) (ih r (Nat.div i 2) k) (Nat.beq (Nat.mod i 2) 1)) (t : ev_T α n × ev_T α n)) n
noncomputable def ev_tset {α β : Type} (n : Nat) : ev_T α n → Nat → α → (ev_T α n → β) → β :=
  Nat.rec (motive := fun n => ev_T α n → Nat → α → (ev_T α n → β) → β) (fun _ _ v k => k v) (fun n ih t i v k => Prod.rec (motive := fun _ => β) (fun (l : ev_T α n) (r : ev_T α n) => Bool.rec (motive := fun _ => β) (ih l (Nat.div i 2) v (fun z => k ((z, r) : ev_T α n × ev_T α n))) (ih r (Nat.div i 2) v (fun z => k ((l, z) : ev_T α n × ev_T α n))) (Nat.beq (Nat.mod i 2) 1)) (t : ev_T α n × ev_T α n)) n
noncomputable def ev_tmk {α : Type} (n : Nat) : (Nat → α) → ev_T α n :=
  Nat.rec (motive := fun n => (Nat → α) → ev_T α n) (fun f => f 0) (fun n ih f => ((ih (fun i => f (2 * i)), ih (fun i => f (2 * i + 1))) : ev_T α n × ev_T α n)) n
abbrev ev_H : Type := ev_T ev_C 8
abbrev ev_R : Type := Option (ev_V × Nat × Nat × ev_H)
abbrev ev_S : Type := List ev_V → List ev_V → Nat → Nat → ev_H → ev_R
abbrev ev_Call : Type := Nat → List ev_V → Nat → Nat → ev_H → ev_R
abbrev ev_Op : Type := ev_Call → ev_S → (Nat → ev_S) → ev_S
abbrev ev_X : Type := Nat × ev_Op
-- forcing
noncomputable def ev_fN {α : Type} (n : Nat) (k : Nat → α) : α := Nat.rec (motive := fun _ => α) (k 0) (fun m _ => k (Nat.succ m)) n
theorem ev_fN_eq {α : Type} (n : Nat) (k : Nat → α) : ev_fN n k = k n := by cases n <;> rfl
noncomputable def ev_setK {β : Type} (l : List β) : Nat → β → (List β → ev_R) → ev_R :=
  List.rec (motive := fun _ => Nat → β → (List β → ev_R) → ev_R) (fun _ _ _ => none) (fun x xs ih n v k => Nat.rec (motive := fun _ => ev_R) (k (v :: xs)) (fun m _ => ih m v (fun ys => k (x :: ys))) n) l
noncomputable def ev_get {α : Type} (l : List α) : Nat → (α → ev_R) → ev_R :=
  List.rec (motive := fun _ => Nat → (α → ev_R) → ev_R) (fun _ _ => none) (fun x _ ih n k => Nat.rec (motive := fun _ => ev_R) (k x) (fun m _ => ih m k) n) l
noncomputable def ev_seek (l : List ev_X) (t : Nat) : List ev_X :=
  List.rec (motive := fun _ => List ev_X) [] (fun x xs ih => Bool.rec (motive := fun _ => List ev_X) ih (x :: xs) (Nat.beq x.1 t)) l
noncomputable def ev_if (b : Bool) (k : ev_R) : ev_R := Bool.rec (motive := fun _ => ev_R) none k b
noncomputable def ev_1 (st : List ev_V) (k : ev_V → List ev_V → ev_R) : ev_R := List.rec (motive := fun _ => ev_R) none (fun a r _ => k a r) st
noncomputable def ev_2 (st : List ev_V) (k : ev_V → ev_V → List ev_V → ev_R) : ev_R := ev_1 st fun a r => ev_1 r fun b r => k a b r
noncomputable def ev_3 (st : List ev_V) (k : ev_V → ev_V → ev_V → List ev_V → ev_R) : ev_R := ev_2 st fun a b r => ev_1 r fun c r => k a b c r
noncomputable def ev_0 (st : List ev_V) (k : ev_R) : ev_R := List.rec (motive := fun _ => ev_R) k (fun _ _ _ => none) st
/-- the three numbers of a value -/
noncomputable def ev_p (v : ev_V) (k : Nat → Nat → Nat → ev_R) : ev_R := Prod.rec (motive := fun _ => ev_R) (fun t q => Prod.rec (motive := fun _ => ev_R) (fun a b => k t a b) q) v
-- numbers: unsigned forms
def ev_u (x : Int32) : Nat := x.toUInt32.toNat
def ev_i (u : Nat) : Int32 := Int32.ofNat u
/-- two ints: exact if both are, else any int -/
noncomputable def ev_bin (o : Int32 → Int32 → Int32) (a b : ev_V) (k : ev_V → ev_R) : ev_R :=
  ev_p a fun t1 u1 _ => ev_p b fun t2 u2 _ => Bool.rec (motive := fun _ => ev_R) (ev_if (Nat.ble t1 1) (ev_if (Nat.ble t2 1) (k (1, 0, 4294967295)))) (ev_fN (ev_u (o (ev_i u1) (ev_i u2))) fun w => k (0, w, 0)) (Nat.beq (Nat.add t1 t2) 0)
noncomputable def ev_un (o : Int32 → Int32) (a : ev_V) (k : ev_V → ev_R) : ev_R :=
  ev_p a fun t1 u1 _ => Bool.rec (motive := fun _ => ev_R) (ev_if (Nat.ble t1 1) (k (1, 0, 4294967295))) (ev_fN (ev_u (o (ev_i u1))) fun w => k (0, w, 0)) (Nat.beq t1 0)
/-- the range of an int's keys -/
noncomputable def ev_rng (a : ev_V) (k : Nat → Nat → ev_R) : ev_R :=
  ev_p a fun t u w => Bool.rec (motive := fun _ => ev_R) (ev_if (Nat.beq t 1) (k u w)) (ev_fN (Nat.mod (Nat.add u 2147483648) 4294967296) fun z => k z z) (Nat.beq t 0)
noncomputable def ev_lt (a b c d : Nat) (yes no : ev_R) : ev_R := Bool.rec (motive := fun _ => ev_R) (ev_if (Nat.ble d a) no) yes (Nat.blt b c)
noncomputable def ev_eq (a b c d : Nat) (yes no : ev_R) : ev_R := Bool.rec (motive := fun _ => ev_R) (Bool.rec (motive := fun _ => ev_R) (ev_if (Nat.beq a b) (ev_if (Nat.beq c d) (ev_if (Nat.beq a c) yes))) no (Nat.blt d a)) no (Nat.blt b c)
noncomputable def ev_cmp (c : ClassFile.Cond) (a b d e : Nat) (yes no : ev_R) : ev_R := match c with
  | .eq => ev_eq a b d e yes no
  | .ne => ev_eq a b d e no yes
  | .lt => ev_lt a b d e yes no
  | .ge => ev_lt a b d e no yes
  | .gt => ev_lt d e a b yes no
  | .le => ev_lt d e a b no yes
def ev_ushr (x y : Int32) : Int32 := (x.toUInt32 >>> (y.toUInt32 &&& Int32.toUInt32 31)).toInt32
/-- does a value fit a field or an answer: kinds 0 int, 1 boolean, 2 reference, 3 long -/
def ev_kind (k : Nat) (t a b : Nat) : Bool := match k with
  | 0 => Nat.ble t 1
  | 1 => (Nat.beq t 0 && Nat.ble a 1) || (Nat.beq t 1 && (Nat.ble 2147483648 a && Nat.ble b 2147483649))
  | 2 => Nat.beq t 2 || Nat.beq t 3
  | _ => Nat.beq t 4
/-- the cell that a reference names -/
noncomputable def ev_cell (nc : Nat) (h : ev_H) (v : ev_V) (k : Nat → Nat → List ev_V → ev_R) : ev_R :=
  ev_p v fun t a _ => ev_if (Nat.beq t 2) (ev_if (Nat.blt a nc) (ev_tget 8 h a fun c => Prod.rec (motive := fun _ => ev_R) (fun tag l => k a tag l) c))
/-- an exact int below 65536 -/
noncomputable def ev_nat (v : ev_V) (k : Nat → ev_R) : ev_R := ev_p v fun t a _ => ev_if (Nat.beq t 0) (ev_if (Nat.blt a 65536) (k a))
noncomputable def ev_put (h : ev_H) (a tag : Nat) (l : List ev_V) (j : Nat) (v : ev_V) (k : ev_H → ev_R) : ev_R :=
  ev_setK l j v fun l' => ev_tset 8 h a (tag, l') k
noncomputable def ev_cut (n : Nat) : List ev_V → List ev_V → (List ev_V → List ev_V → ev_R) → ev_R :=
  Nat.rec (motive := fun _ => List ev_V → List ev_V → (List ev_V → List ev_V → ev_R) → ev_R) (fun acc st k => k acc st) (fun _ ih acc st k => ev_1 st fun v r => ih (v :: acc) r k) n
noncomputable def ev_pad (n : Nat) : List ev_V → (List ev_V → ev_R) → ev_R :=
  Nat.rec (motive := fun _ => List ev_V → (List ev_V → ev_R) → ev_R) (fun l k => List.rec (motive := fun _ => ev_R) (k []) (fun _ _ _ => none) l) (fun _ ih l k => List.rec (motive := fun _ => ev_R) (ih [] fun ys => k ((9, 0, 0) :: ys)) (fun x xs _ => ev_p x fun t _ _ => ev_if (Nat.ble t 3) (ih xs fun ys => k (x :: ys))) l) n
noncomputable def ev_ok (r : ev_R) (k : ev_V → Nat → Nat → ev_H → ev_R) : ev_R := Option.rec (motive := fun _ => ev_R) none (fun q => Prod.rec (motive := fun _ => ev_R) (fun v q => Prod.rec (motive := fun _ => ev_R) (fun ns q => Prod.rec (motive := fun _ => ev_R) (fun nc h => k v ns nc h) q) q) q) r
/-- a short stack of values of one word each -/
noncomputable def ev_one (r : List ev_V) : Bool := List.rec (motive := fun _ => Bool) true (fun v _ ih => Prod.rec (motive := fun _ => Bool) (fun t _ => Bool.rec (motive := fun _ => Bool) false ih (Nat.ble t 3)) v) r
noncomputable def ev_small (r : List ev_V) : Bool := Bool.rec (motive := fun _ => Bool) false (ev_one r) (Nat.ble r.length 8)
-- the instructions
abbrev ev_P1 (α : Type) : Type := α × α
abbrev ev_P8 (α : Type) : Type := ev_P1 (ev_P1 (ev_P1 (ev_P1 (ev_P1 (ev_P1 (ev_P1 (ev_P1 α)))))))
def eb_add (x y : Int32) : Int32 := x + y
def eb_sub (x y : Int32) : Int32 := x - y
def eb_mul (x y : Int32) : Int32 := x * y
def eb_and (x y : Int32) : Int32 := x &&& y
def eb_or (x y : Int32) : Int32 := x ||| y
def eb_xor (x y : Int32) : Int32 := x ^^^ y
def eb_shl (x y : Int32) : Int32 := x <<< (y &&& 31)
def eb_shr (x y : Int32) : Int32 := x >>> (y &&& 31)
def eb_div (x y : Int32) : Int32 := x / y
def eb_rem (x y : Int32) : Int32 := x - x / y * y
def eb_neg (x : Int32) : Int32 := -x
def eb_i2b (x : Int32) : Int32 := x.toInt8.toInt32
noncomputable def eo_push (v : ev_V) : ev_Op := fun _ Kn _ al st ns nc h => Kn al (v :: st) ns nc h
noncomputable def eo_iload (i : Nat) : ev_Op := fun _ Kn _ al st ns nc h => ev_get al i fun v => ev_p v fun t _ _ => ev_if (Nat.ble t 1) (Kn al (v :: st) ns nc h)
noncomputable def eo_aload (i : Nat) : ev_Op := fun _ Kn _ al st ns nc h => ev_get al i fun v => ev_p v fun t _ _ => ev_if (Nat.beq t 2) (Kn al (v :: st) ns nc h)
noncomputable def eo_istore (i : Nat) : ev_Op := fun _ Kn _ al st ns nc h => ev_1 st fun v r => ev_p v fun t _ _ => ev_if (Nat.ble t 1) (ev_setK al i v fun al' => Kn al' r ns nc h)
noncomputable def eo_astore (i : Nat) : ev_Op := fun _ Kn _ al st ns nc h => ev_1 st fun v r => ev_p v fun t _ _ => ev_if (Nat.beq t 2) (ev_setK al i v fun al' => Kn al' r ns nc h)
noncomputable def eo_iinc (i n : Nat) : ev_Op := fun _ Kn _ al st ns nc h => ev_get al i fun v => ev_bin eb_add v (0, n, 0) fun w => ev_setK al i w fun al' => Kn al' st ns nc h
noncomputable def eo_bin (o : Int32 → Int32 → Int32) : ev_Op := fun _ Kn _ al st ns nc h => ev_2 st fun b a r => ev_bin o a b fun w => Kn al (w :: r) ns nc h
def eb_min (x y : Int32) : Int32 := if y < x then y else x
noncomputable def eo_min : ev_Op := fun _ Kn _ al st ns nc h => ev_2 st fun b a r => ev_if (ev_small r) (ev_bin eb_min a b fun w => Kn al (w :: r) ns nc h)
noncomputable def eo_div (o : Int32 → Int32 → Int32) : ev_Op := fun _ Kn _ al st ns nc h => ev_2 st fun b a r => ev_nat b fun n => ev_if (Nat.blt 0 n) (ev_bin o a b fun w => Kn al (w :: r) ns nc h)
noncomputable def eo_un (o : Int32 → Int32) : ev_Op := fun _ Kn _ al st ns nc h => ev_1 st fun a r => ev_un o a fun w => Kn al (w :: r) ns nc h
noncomputable def eo_dup : ev_Op := fun _ Kn _ al st ns nc h => ev_1 st fun a r => ev_p a fun t _ _ => ev_if (Nat.ble t 3) (Kn al (a :: a :: r) ns nc h)
noncomputable def eo_dup2 : ev_Op := fun _ Kn _ al st ns nc h => ev_2 st fun a b r => ev_p a fun t _ _ => ev_p b fun t2 _ _ => ev_if (Nat.ble t 3) (ev_if (Nat.ble t2 3) (Kn al (a :: b :: a :: b :: r) ns nc h))
noncomputable def eo_pop : ev_Op := fun _ Kn _ al st ns nc h => ev_1 st fun a r => ev_p a fun t _ _ => ev_if (Nat.ble t 3) (Kn al r ns nc h)
noncomputable def eo_ifc (c : ClassFile.Cond) (t : Nat) : ev_Op := fun _ Kn Kj al st ns nc h => ev_1 st fun a r => ev_rng a fun x y => ev_cmp c x y 2147483648 2147483648 (Kj t al r ns nc h) (Kn al r ns nc h)
noncomputable def eo_icmp (c : ClassFile.Cond) (t : Nat) : ev_Op := fun _ Kn Kj al st ns nc h => ev_2 st fun b a r => ev_rng a fun x y => ev_rng b fun z w => ev_cmp c x y z w (Kj t al r ns nc h) (Kn al r ns nc h)
noncomputable def eo_goto (t : Nat) : ev_Op := fun _ _ Kj al st ns nc h => Kj t al st ns nc h
/-- a table of targets by keys from lo on; the last number is the default -/
noncomputable def eo_tab (lo : Nat) (ts : List Nat) (d : Nat) : ev_Op := fun _ _ Kj al st ns nc h => ev_1 st fun a r => ev_rng a fun x y =>
  Bool.rec (motive := fun _ => ev_R) (Bool.rec (motive := fun _ => ev_R) (ev_if (Nat.beq x y) (ev_get ts (Nat.sub x lo) fun t => Kj t al r ns nc h)) (Kj d al r ns nc h) (Nat.ble (Nat.add lo ts.length) x)) (Kj d al r ns nc h) (Nat.blt y lo)
noncomputable def eo_getf (ci k : Nat) : ev_Op := fun _ Kn _ al st ns nc h => ev_1 st fun o r => ev_cell nc h o fun _ tag l => ev_if (Nat.beq tag ci) (ev_get l k fun v => Kn al (v :: r) ns nc h)
noncomputable def eo_putf (ci k kd : Nat) : ev_Op := fun _ Kn _ al st ns nc h => ev_2 st fun v o r => ev_cell nc h o fun a tag l => ev_if (Nat.beq tag ci) (ev_p v fun t x y => ev_if (ev_kind kd t x y) (ev_put h a tag l k v fun h' => Kn al r ns nc h'))
noncomputable def eo_ald (lo hi : Nat) : ev_Op := fun _ Kn _ al st ns nc h => ev_2 st fun i o r => ev_cell nc h o fun _ tag l => ev_if (Nat.ble lo tag) (ev_if (Nat.ble tag hi) (ev_nat i fun j => ev_get l j fun v => Kn al (v :: r) ns nc h))
noncomputable def eo_iast : ev_Op := fun _ Kn _ al st ns nc h => ev_3 st fun v i o r => ev_cell nc h o fun a tag l => ev_if (Nat.beq tag 50) (ev_p v fun t _ _ => ev_if (Nat.ble t 1) (ev_nat i fun j => ev_put h a tag l j v fun h' => Kn al r ns nc h'))
noncomputable def eo_bast : ev_Op := fun _ Kn _ al st ns nc h => ev_3 st fun v i o r => ev_cell nc h o fun a tag l => ev_nat i fun j =>
  Bool.rec (motive := fun _ => ev_R) (ev_if (Nat.beq tag 52) (ev_un (vp_nar .boolean) v fun w => ev_put h a tag l j w fun h' => Kn al r ns nc h')) (ev_un (vp_nar .byte) v fun w => ev_put h a tag l j w fun h' => Kn al r ns nc h') (Nat.beq tag 51)
noncomputable def eo_alen : ev_Op := fun _ Kn _ al st ns nc h => ev_1 st fun o r => ev_cell nc h o fun _ tag l => ev_if (Nat.ble 50 tag) (ev_if (Nat.ble tag 53) (ev_fN l.length fun n => ev_if (Nat.blt n 65536) (Kn al ((0, n, 0) :: r) ns nc h)))
noncomputable def ev_fill (n : Nat) (v : ev_V) : (List ev_V → ev_R) → ev_R := Nat.rec (motive := fun _ => (List ev_V → ev_R) → ev_R) (fun k => k []) (fun _ ih k => ih fun l => k (v :: l)) n
noncomputable def ev_new (tag : Nat) (l : List ev_V) (n : Nat) : ev_S → ev_S := fun Kn al st ns nc h => ev_if (Nat.blt nc 256) (ev_fN (Nat.add ns n) fun ns' => ev_fN (Nat.succ nc) fun nc' => ev_tset 8 h nc (tag, l) fun h' => Kn al ((2, nc, 0) :: st) ns' nc' h')
noncomputable def eo_newa (tag : Nat) (v : ev_V) : ev_Op := fun _ Kn _ al st ns nc h => ev_1 st fun n r => ev_nat n fun j => ev_fill j v fun l => ev_new tag l j Kn al r ns nc h
noncomputable def eo_new (ci : Nat) (fs : List ev_V) (n : Nat) : ev_Op := fun _ Kn _ al st ns nc h => ev_new ci fs n Kn al st ns nc h
noncomputable def eo_obj : ev_Op := fun _ Kn _ al st ns nc h => ev_1 st fun o r => ev_p o fun t _ _ => ev_if (Nat.beq t 2) (ev_if (ev_small r) (Kn al r ns nc h))
noncomputable def ev_back (v : ev_V) (Kn : ev_S) : ev_S := fun al r ns nc h => ev_p v fun t _ _ => Bool.rec (motive := fun _ => ev_R) (Kn al (v :: r) ns nc h) (Kn al r ns nc h) (Nat.beq t 9)
noncomputable def eo_spec (k n : Nat) : ev_Op := fun call Kn _ al st ns nc h => ev_cut n [] st fun as q => ev_1 q fun o r => ev_p o fun t _ _ => ev_if (Nat.beq t 2) (ev_if (ev_small r) (ev_ok (call k (o :: as) ns nc h) fun v ns nc h => ev_p v fun t _ _ => ev_if (Nat.beq t 9) (Kn al r ns nc h)))
noncomputable def eo_virt (k n ci : Nat) : ev_Op := fun call Kn _ al st ns nc h => ev_cut n [] st fun as q => ev_1 q fun o r => ev_cell nc h o fun _ tag _ => ev_if (Nat.beq tag ci) (ev_if (ev_small r) (ev_ok (call k (o :: as) ns nc h) fun v ns nc h => ev_back v Kn al r ns nc h))
noncomputable def eo_stat (k n : Nat) : ev_Op := fun call Kn _ al st ns nc h => ev_cut n [] st fun as r => ev_if (ev_small r) (ev_ok (call k as ns nc h) fun v ns nc h => ev_back v Kn al r ns nc h)
noncomputable def ev_cpy (n : Nat) : List ev_V → List ev_V → Nat → (List ev_V → ev_R) → ev_R :=
  Nat.rec (motive := fun _ => List ev_V → List ev_V → Nat → (List ev_V → ev_R) → ev_R) (fun _ g _ k => k g) (fun _ ih f g j k => ev_1 f fun v f' => ev_setK g j v fun g' => ih f' g' (Nat.succ j) k) n
noncomputable def ev_drop (n : Nat) : List ev_V → (List ev_V → ev_R) → ev_R :=
  Nat.rec (motive := fun _ => List ev_V → (List ev_V → ev_R) → ev_R) (fun f k => k f) (fun _ ih f k => ev_1 f fun _ f' => ih f' k) n
noncomputable def eo_copy : ev_Op := fun _ Kn _ al st ns nc h => ev_3 st fun n dp d r => ev_2 r fun sp o r => ev_if (ev_small r) (ev_cell nc h o fun a0 tag0 f => ev_cell nc h d fun a1 tag1 g => ev_if (Nat.beq tag0 50) (ev_if (Nat.beq tag1 50) (ev_if (!(Nat.beq a0 a1)) (ev_nat sp fun s => ev_nat dp fun t => ev_nat n fun k => ev_if (Nat.blt 0 k) (ev_drop s f fun f' => ev_cpy k f' g t fun g' => ev_tset 8 h a1 (50, g') fun h' => Kn al r ns nc h')))))
noncomputable def eo_iret (kd : Nat) : ev_Op := fun _ _ _ _ st ns nc h => ev_1 st fun v r => ev_p v fun t x y => ev_if (ev_kind kd t x y) (ev_0 r (some (v, ns, nc, h)))
noncomputable def eo_vret : ev_Op := fun _ _ _ _ st ns nc h => ev_0 st (some ((9, 0, 0), ns, nc, h))
noncomputable def eo_none : ev_Op := fun _ _ _ _ _ _ _ _ => none
noncomputable def ev_run (call : ev_Call) (code : List ev_X) (n : Nat) : List ev_X → ev_S :=
  Nat.rec (motive := fun _ => List ev_X → ev_S) (fun _ _ _ _ _ _ => none) (fun _ ih cs => List.rec (motive := fun _ => ev_S) (fun _ _ _ _ _ => none) (fun x rest _ => x.2 call (ih rest) (fun t => ih (ev_seek code t))) cs) n
noncomputable def ev_exec (XT : ev_T (Nat × List ev_X) 8) (fuel : Nat) (d : Nat) : ev_Call :=
  Nat.rec (motive := fun _ => ev_Call) (fun _ _ _ _ _ => none) (fun _ ih k args ns nc h => ev_tget 8 XT k fun M => Prod.rec (motive := fun _ => ev_R) (fun n code => ev_pad n args fun al => ev_ok (ev_run ih code fuel code al [] ns nc h) fun v ns' nc' h' => ev_if (Nat.ble nc nc') (ev_if (Nat.ble ns ns') (some (v, ns', nc', h')))) M) d
