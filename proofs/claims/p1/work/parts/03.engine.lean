/-! THE ENGINE: an interpreter of the bytecode over number-coded values.
A value: (0, u, _) the int u (mod 2^32); (1, lo, hi) an int whose key (value + 2^31) lies in lo .. hi; (2, k, _) a reference to the k-th cell; (3, _, _) null; (4, u, _) the long u; (9, _, _) nothing. -/
abbrev ev_V : Type := Nat × Nat × Nat
abbrev ev_C : Type := Nat × List ev_V
abbrev ev_I : Type := Nat × Instr × Nat × (Nat × Nat × Nat × Nat) × List Nat
abbrev ev_L : Type := List (Nat × ev_V)
abbrev ev_R : Type := Option (ev_V × Nat × List ev_C)
-- forcing: a number, or a list's set, is worked out before it is handed on
def ev_fN {α : Type} (n : Nat) (k : Nat → α) : α := match n with
  | 0 => k 0
  | m + 1 => k (Nat.succ m)
theorem ev_fN_eq {α : Type} (n : Nat) (k : Nat → α) : ev_fN n k = k n := by cases n <;> rfl
def ev_fV {α : Type} (v : ev_V) (k : ev_V → α) : α := ev_fN v.1 fun t => ev_fN v.2.1 fun a => ev_fN v.2.2 fun b => k (t, a, b)
theorem ev_fV_eq {α : Type} (v : ev_V) (k : ev_V → α) : ev_fV v k = k v := by simp [ev_fV, ev_fN_eq]
noncomputable def ev_setK {α β : Type} (l : List β) : Nat → β → (List β → α) → α :=
  List.rec (motive := fun _ => Nat → β → (List β → α) → α) (fun _ _ k => k []) (fun x xs ih n v k => Nat.rec (motive := fun _ => α) (k (v :: xs)) (fun m _ => ih m v (fun ys => k (x :: ys))) n) l
theorem ev_setK_eq {α β : Type} (l : List β) : ∀ (n : Nat) (v : β) (k : List β → α), ev_setK l n v k = k (l.set n v) := by
  induction l with
  | nil => intro n v k; rfl
  | cons x xs ih =>
    intro n v k
    cases n with
    | zero => rfl
    | succ m => exact ih m v (fun ys => k (x :: ys))
def ev_get {α : Type} : List α → Nat → Option α
  | [], _ => none
  | x :: _, 0 => some x
  | _ :: xs, n + 1 => ev_get xs n
theorem ev_get_eq {α : Type} (l : List α) : ∀ n : Nat, ev_get l n = l[n]? := by
  induction l with
  | nil => intro n; rfl
  | cons x xs ih =>
    intro n
    cases n with
    | zero => rfl
    | succ m => rw [List.getElem?_cons_succ]; exact ih m
def ev_look : ev_L → Nat → Option ev_V
  | [], _ => none
  | (i, v) :: r, k => if i = k then some v else ev_look r k
def ev_drop : ev_L → Nat → ev_L
  | [], _ => []
  | (i, v) :: r, k => if i = k then ev_drop r k else (i, v) :: ev_drop r k
def ev_seek : List ev_I → Nat → List ev_I
  | [], _ => []
  | x :: r, t => if x.1 = t then x :: r else ev_seek r t
-- numbers
def ev_of (x : Int32) : ev_V := (0, x.toUInt32.toNat, 0)
def ev_top : ev_V := (1, 0, 4294967295)
def ev_bin (o : Int32 → Int32 → Int32) (a b : ev_V) : ev_V := match a.1, b.1 with
  | 0, 0 => ev_of (o (Int32.ofNat a.2.1) (Int32.ofNat b.2.1))
  | _, _ => ev_top
def ev_un (o : Int32 → Int32) (a : ev_V) : ev_V := match a.1 with
  | 0 => ev_of (o (Int32.ofNat a.2.1))
  | _ => ev_top
def ev_rng (a : ev_V) : Nat × Nat := match a.1 with
  | 0 => ((a.2.1 + 2147483648) % 4294967296, (a.2.1 + 2147483648) % 4294967296)
  | _ => a.2
def ev_lt (a b : Nat × Nat) : Option Bool := if a.2 < b.1 then some true else if b.2 ≤ a.1 then some false else none
def ev_eq (a b : Nat × Nat) : Option Bool := if a.2 < b.1 then some false else if b.2 < a.1 then some false else if a.1 = a.2 then if b.1 = b.2 then if a.1 = b.1 then some true else none else none else none
def ev_not (r : Option Bool) : Option Bool := match r with
  | some true => some false
  | some false => some true
  | none => none
def ev_cmp (c : ClassFile.Cond) (a b : Nat × Nat) : Option Bool := match c with
  | .eq => ev_eq a b
  | .ne => ev_not (ev_eq a b)
  | .lt => ev_lt a b
  | .ge => ev_not (ev_lt a b)
  | .gt => ev_lt b a
  | .le => ev_not (ev_lt b a)
def ev_isI (v : ev_V) : Bool := Nat.ble v.1 1
def ev_ushr (x y : Int32) : Int32 := (x.toUInt32 >>> (y.toUInt32 &&& Int32.toUInt32 31)).toInt32
def ev_kind (k : Nat) (v : ev_V) : Bool := match k with
  | 0 => ev_isI v
  | 1 => match v.1 with
    | 0 => Nat.ble v.2.1 1
    | 1 => Nat.ble 2147483648 v.2.1 && Nat.ble v.2.2 2147483649
    | _ => false
  | 2 => Nat.beq v.1 2 || Nat.beq v.1 3
  | _ => Nat.beq v.1 4
def ev_tgt (pc : Nat) (off : Int) : Nat := ((pc : Int) + off).toNat
def ev_zeros (n : Nat) (v : ev_V) : List ev_V := List.replicate n v
/-- what a new array's elements are: kinds 0 int, 1 byte, 2 boolean, 3 long -/
def ev_atype (t : ArrayType) : Option (Nat × ev_V) := match t with
  | .int => some (50, (0, 0, 0))
  | .byte => some (51, (0, 0, 0))
  | .boolean => some (52, (0, 0, 0))
  | .long => some (53, (4, 0, 0))
  | _ => none
def ev_split : Nat → List ev_V → Option (List ev_V × List ev_V)
  | 0, st => some ([], st)
  | n + 1, v :: st => match ev_split n st with
    | some (a, r) => some (a ++ [v], r)
    | none => none
  | _ + 1, [] => none
def ev_args : Nat → List ev_V → ev_L
  | _, [] => []
  | i, v :: vs => (i, v) :: ev_args (i + 1) vs
def ev_cpy (f g : List ev_V) (sp dp n : Nat) : List ev_V := g.take dp ++ ((f.drop sp).take n ++ g.drop (dp + n))
def ev_noI (l : List ev_I) (al : ev_L) (st : List ev_V) (ns : Nat) (ah : List ev_C) : ev_R := none
/-- a branch: by what is known of the condition -/
def ev_br (r : Option Bool) (yes no : ev_R) : ev_R := match r with
  | some true => yes
  | some false => no
  | none => none
def ev_1 (st : List ev_V) (k : ev_V → List ev_V → ev_R) : ev_R := match st with
  | a :: r => k a r
  | _ => none
def ev_2 (st : List ev_V) (k : ev_V → ev_V → List ev_V → ev_R) : ev_R := match st with
  | a :: b :: r => k a b r
  | _ => none
def ev_3 (st : List ev_V) (k : ev_V → ev_V → ev_V → List ev_V → ev_R) : ev_R := match st with
  | a :: b :: c :: r => k a b c r
  | _ => none
def ev_if (b : Bool) (k : ev_R) : ev_R := match b with
  | true => k
  | false => none
def ev_some {α : Type} (o : Option α) (k : α → ev_R) : ev_R := match o with
  | some a => k a
  | none => none
/-- the cell that a reference names -/
def ev_cell (ah : List ev_C) (r : ev_V) (k : Nat → ev_C → ev_R) : ev_R := match r.1 with
  | 2 => ev_some (ev_get ah r.2.1) fun c => k r.2.1 c
  | _ => none
/-- an exact int below 65536 -/
def ev_nat (v : ev_V) (k : Nat → ev_R) : ev_R := match v.1 with
  | 0 => ev_if (Nat.blt v.2.1 65536) (k v.2.1)
  | _ => none
noncomputable def ev_put (ah : List ev_C) (a : Nat) (c : ev_C) (j : Nat) (v : ev_V) (k : List ev_C → ev_R) : ev_R :=
  ev_setK c.2 j v fun l => ev_setK ah a (c.1, l) k
def ev_tab (d lo hi : Int) (offs : Array Int) (v : ev_V) : Option Int := match v.1 with
  | 0 => if (Int32.ofNat v.2.1).toInt < lo then some d else if hi < (Int32.ofNat v.2.1).toInt then some d else offs[((Int32.ofNat v.2.1).toInt - lo).toNat]?
  | _ => if (v.2.2 : Int) < lo + 2147483648 then some d else if hi + 2147483648 < (v.2.1 : Int) then some d else none
noncomputable def ev_step (call : Nat → List ev_V → Nat → List ev_C → ev_R) (code : List ev_I) (pc : Nat) (ins : Instr) (h1 h2 h3 h4 : Nat) (rest : List ev_I) (al : ev_L) (st : List ev_V) (ns : Nat) (ah : List ev_C) (K : List ev_I → ev_L → List ev_V → Nat → List ev_C → ev_R) : ev_R :=
  match ins with
  | .iconst i => ev_fV (ev_of (Int32.ofInt i)) fun v => K rest al (v :: st) ns ah
  | .bipush i => ev_fV (ev_of (Int8.ofInt i).toInt32) fun v => K rest al (v :: st) ns ah
  | .sipush i => ev_fV (ev_of (Int16.ofInt i).toInt32) fun v => K rest al (v :: st) ns ah
  | .ldc _ => K rest al ((0, h1, 0) :: st) ns ah
  | .ldc_w _ => K rest al ((0, h1, 0) :: st) ns ah
  | .lconst n => K rest al ((4, n.val, 0) :: st) ns ah
  | .iload i => ev_some (ev_look al i) fun v => ev_if (ev_isI v) (K rest al (v :: st) ns ah)
  | .iload_n i => ev_some (ev_look al i.val) fun v => ev_if (ev_isI v) (K rest al (v :: st) ns ah)
  | .aload i => ev_some (ev_look al i) fun v => ev_if (Nat.beq v.1 2) (K rest al (v :: st) ns ah)
  | .aload_n i => ev_some (ev_look al i.val) fun v => ev_if (Nat.beq v.1 2) (K rest al (v :: st) ns ah)
  | .istore i => ev_1 st fun v r => ev_if (ev_isI v) (K rest ((i, v) :: ev_drop al i) r ns ah)
  | .istore_n i => ev_1 st fun v r => ev_if (ev_isI v) (K rest ((i.val, v) :: ev_drop al i.val) r ns ah)
  | .astore i => ev_1 st fun v r => ev_if (Nat.beq v.1 2) (K rest ((i, v) :: ev_drop al i) r ns ah)
  | .astore_n i => ev_1 st fun v r => ev_if (Nat.beq v.1 2) (K rest ((i.val, v) :: ev_drop al i.val) r ns ah)
  | .iinc i n => ev_some (ev_look al i) fun v => ev_if (ev_isI v) (ev_fV (ev_bin (fun x y => x + y) v (ev_of (Int32.ofInt n))) fun w => K rest ((i, w) :: ev_drop al i) st ns ah)
  | .iadd => ev_2 st fun b a r => ev_if (ev_isI a && ev_isI b) (ev_fV (ev_bin (fun x y => x + y) a b) fun w => K rest al (w :: r) ns ah)
  | .isub => ev_2 st fun b a r => ev_if (ev_isI a && ev_isI b) (ev_fV (ev_bin (fun x y => x - y) a b) fun w => K rest al (w :: r) ns ah)
  | .imul => ev_2 st fun b a r => ev_if (ev_isI a && ev_isI b) (ev_fV (ev_bin (fun x y => x * y) a b) fun w => K rest al (w :: r) ns ah)
  | .iand => ev_2 st fun b a r => ev_if (ev_isI a && ev_isI b) (ev_fV (ev_bin (fun x y => x &&& y) a b) fun w => K rest al (w :: r) ns ah)
  | .ior => ev_2 st fun b a r => ev_if (ev_isI a && ev_isI b) (ev_fV (ev_bin (fun x y => x ||| y) a b) fun w => K rest al (w :: r) ns ah)
  | .ixor => ev_2 st fun b a r => ev_if (ev_isI a && ev_isI b) (ev_fV (ev_bin (fun x y => x ^^^ y) a b) fun w => K rest al (w :: r) ns ah)
  | .ishl => ev_2 st fun b a r => ev_if (ev_isI a && ev_isI b) (ev_fV (ev_bin (fun x y => x <<< (y &&& 31)) a b) fun w => K rest al (w :: r) ns ah)
  | .ishr => ev_2 st fun b a r => ev_if (ev_isI a && ev_isI b) (ev_fV (ev_bin (fun x y => x >>> (y &&& 31)) a b) fun w => K rest al (w :: r) ns ah)
  | .iushr => ev_2 st fun b a r => ev_if (ev_isI a && ev_isI b) (ev_fV (ev_bin ev_ushr a b) fun w => K rest al (w :: r) ns ah)
  | .idiv => ev_2 st fun b a r => ev_if (ev_isI a) (ev_nat b fun n => ev_if (Nat.blt 0 n) (ev_fV (ev_bin (fun x y => x / y) a b) fun w => K rest al (w :: r) ns ah))
  | .irem => ev_2 st fun b a r => ev_if (ev_isI a) (ev_nat b fun n => ev_if (Nat.blt 0 n) (ev_fV (ev_bin (fun x y => x - x / y * y) a b) fun w => K rest al (w :: r) ns ah))
  | .ineg => ev_1 st fun a r => ev_if (ev_isI a) (ev_fV (ev_un (fun x => -x) a) fun w => K rest al (w :: r) ns ah)
  | .i2b => ev_1 st fun a r => ev_if (ev_isI a) (ev_fV (ev_un (fun x => x.toInt8.toInt32) a) fun w => K rest al (w :: r) ns ah)
  | .dup => ev_1 st fun a r => ev_if (Nat.ble a.1 3) (K rest al (a :: a :: r) ns ah)
  | .dup2 => ev_2 st fun a b r => ev_if (Nat.ble a.1 3 && Nat.ble b.1 3) (K rest al (a :: b :: a :: b :: r) ns ah)
  | .pop => ev_1 st fun a r => ev_if (Nat.ble a.1 3) (K rest al r ns ah)
  | .ifCond c _ => ev_1 st fun a r => ev_if (ev_isI a) (ev_br (ev_cmp c (ev_rng a) (2147483648, 2147483648)) (K (ev_seek code h1) al r ns ah) (K rest al r ns ah))
  | .if_icmp c _ => ev_2 st fun b a r => ev_if (ev_isI a && ev_isI b) (ev_br (ev_cmp c (ev_rng a) (ev_rng b)) (K (ev_seek code h1) al r ns ah) (K rest al r ns ah))
  | .goto _ => K (ev_seek code h1) al st ns ah
  | .tableswitch d lo hi offs => ev_1 st fun a r => ev_if (ev_isI a) (ev_some (ev_tab d lo hi offs a) fun off => ev_fN (ev_tgt pc off) fun t => K (ev_seek code t) al r ns ah)
  | .getfield _ => ev_1 st fun o r => ev_cell ah o fun _ c => ev_if (Nat.beq c.1 h1) (ev_some (ev_get c.2 h2) fun v => K rest al (v :: r) ns ah)
  | .putfield _ => ev_2 st fun v o r => ev_cell ah o fun a c => ev_if (Nat.beq c.1 h1 && ev_kind h4 v && Nat.blt h2 c.2.length) (ev_put ah a c h2 v fun ah' => K rest al r ns ah')
  | .iaload => ev_2 st fun i o r => ev_cell ah o fun _ c => ev_if (Nat.beq c.1 50) (ev_nat i fun j => ev_some (ev_get c.2 j) fun v => K rest al (v :: r) ns ah)
  | .baload => ev_2 st fun i o r => ev_cell ah o fun _ c => ev_if (Nat.beq c.1 51 || Nat.beq c.1 52) (ev_nat i fun j => ev_some (ev_get c.2 j) fun v => K rest al (v :: r) ns ah)
  | .iastore => ev_3 st fun v i o r => ev_cell ah o fun a c => ev_if (Nat.beq c.1 50 && ev_isI v) (ev_nat i fun j => ev_if (Nat.blt j c.2.length) (ev_put ah a c j v fun ah' => K rest al r ns ah'))
  | .bastore => ev_3 st fun v i o r => ev_cell ah o fun a c => ev_if (ev_isI v) (ev_nat i fun j => ev_if (Nat.blt j c.2.length)
      (match c.1 with
        | 51 => ev_fV (ev_un (vp_nar .byte) v) fun w => ev_put ah a c j w fun ah' => K rest al r ns ah'
        | 52 => ev_fV (ev_un (vp_nar .boolean) v) fun w => ev_put ah a c j w fun ah' => K rest al r ns ah'
        | _ => none))
  | .arraylength => ev_1 st fun o r => ev_cell ah o fun _ c => ev_if (Nat.ble 50 c.1) (ev_fN c.2.length fun n => K rest al ((0, n, 0) :: r) ns ah)
  | .newarray t => ev_1 st fun n r => ev_nat n fun j => ev_some (ev_atype t) fun q => ev_fN (ns + j) fun ns' => ev_fN ah.length fun a => K rest al ((2, a, 0) :: r) ns' (ah ++ [(q.1, ev_zeros j q.2)])
  | .new _ => ev_some (ev_get ev_blank h1) fun fs => ev_fN (ns + fs.length) fun ns' => ev_fN ah.length fun a => K rest al ((2, a, 0) :: st) ns' (ah ++ [(h1, fs)])
  | .invokespecial _ => match h3 with
    | 2 => ev_1 st fun o r => ev_if (Nat.beq o.1 2) (K rest al r ns ah)
    | _ => ev_some (ev_split h2 st) fun q => ev_1 q.2 fun o r => ev_if (Nat.beq o.1 2) (ev_some (call h1 (o :: q.1) ns ah) fun res => K rest al r res.2.1 res.2.2)
  | .invokevirtual _ => ev_some (ev_split h2 st) fun q => ev_1 q.2 fun o r => ev_cell ah o fun _ c => ev_if (Nat.beq c.1 h4) (ev_some (call h1 (o :: q.1) ns ah) fun res => match res.1.1 with
      | 9 => K rest al r res.2.1 res.2.2
      | _ => K rest al (res.1 :: r) res.2.1 res.2.2)
  | .invokestatic _ => match h3 with
    | 5 => ev_3 st fun n dp d r => ev_2 r fun sp o r' => ev_cell ah o fun _ c0 => ev_cell ah d fun a1 c1 => ev_if (Nat.beq c0.1 50 && Nat.beq c1.1 50) (ev_nat sp fun s => ev_nat dp fun t => ev_nat n fun k => ev_if (Nat.ble (s + k) c0.2.length && Nat.ble (t + k) c1.2.length)
        (ev_setK ah a1 (c1.1, ev_cpy c0.2 c1.2 s t k) fun ah' => K rest al r' ns ah'))
    | _ => ev_some (ev_split h2 st) fun q => ev_some (call h1 q.1 ns ah) fun res => match res.1.1 with
      | 9 => K rest al q.2 res.2.1 res.2.2
      | _ => K rest al (res.1 :: q.2) res.2.1 res.2.2
  | .ireturn => ev_1 st fun v r => ev_if (ev_kind h1 v) (match r with
      | [] => some (v, ns, ah)
      | _ => none)
  | .return_ => match st with
    | [] => some ((9, 0, 0), ns, ah)
    | _ => none
  | _ => none
noncomputable def ev_run (call : Nat → List ev_V → Nat → List ev_C → ev_R) (code : List ev_I) (n : Nat) : List ev_I → ev_L → List ev_V → Nat → List ev_C → ev_R :=
  Nat.rec (motive := fun _ => List ev_I → ev_L → List ev_V → Nat → List ev_C → ev_R) (fun _ _ _ _ _ => none) (fun _ ih cs al st ns ah => match cs with
    | [] => none
    | x :: rest => ev_step call code x.1 x.2.1 x.2.2.2.1.1 x.2.2.2.1.2.1 x.2.2.2.1.2.2.1 x.2.2.2.1.2.2.2 rest al st ns ah ih) n
/-- a method's table: name, bytes, locals, return type, instructions -/
abbrev ev_M : Type := MethodName × ByteArray × Nat × Option FieldType × List ev_I
noncomputable def ev_exec (MT : List ev_M) (fuel : Nat) (d : Nat) : Nat → List ev_V → Nat → List ev_C → ev_R :=
  Nat.rec (motive := fun _ => Nat → List ev_V → Nat → List ev_C → ev_R) (fun _ _ _ _ => none) (fun _ ih k args ns ah => match ev_get MT k with
    | none => none
    | some M => ev_run ih M.2.2.2.2 fuel M.2.2.2.2 (ev_args 0 args) [] ns ah) d
