/-! THE TABLES' WORDS: what an instruction's operation is, and what must be checked of it -/
abbrev ev_I : Type := Nat × Instr × Nat × (Nat × Nat × Nat × Nat) × List Nat
/-- the words by chapters: a place is 1000 times the chapter, and the place in it -/
def ev_tb (c : Nat) : List Cond := match c with
  | 0 => k2_sels lw_privs
  | 1 => tables_1_1
  | 2 => tables_1_2
  | 3 => tables_1_3
  | 4 => tables_1_4
  | 5 => tables_1_5
  | 6 => tables_1_6
  | 7 => tables_1_7
  | _ => tables_1_8
theorem ev_tb_in {c : Nat} {w : Cond} (h : w ∈ ev_tb c) : w ∈ lw_tbl := by
  have key : w ∈ k2_sels lw_privs ∨ w ∈ tables_1_1 ∨ w ∈ tables_1_2 ∨ w ∈ tables_1_3 ∨ w ∈ tables_1_4 ∨ w ∈ tables_1_5 ∨ w ∈ tables_1_6 ∨ w ∈ tables_1_7 ∨ w ∈ tables_1_8 := by
    match c, h with
    | 0, h => exact Or.inl h
    | 1, h => exact Or.inr (Or.inl h)
    | 2, h => exact Or.inr (Or.inr (Or.inl h))
    | 3, h => exact Or.inr (Or.inr (Or.inr (Or.inl h)))
    | 4, h => exact Or.inr (Or.inr (Or.inr (Or.inr (Or.inl h))))
    | 5, h => exact Or.inr (Or.inr (Or.inr (Or.inr (Or.inr (Or.inl h)))))
    | 6, h => exact Or.inr (Or.inr (Or.inr (Or.inr (Or.inr (Or.inr (Or.inl h))))))
    | 7, h => exact Or.inr (Or.inr (Or.inr (Or.inr (Or.inr (Or.inr (Or.inr (Or.inl h)))))))
    | c + 8, h => exact Or.inr (Or.inr (Or.inr (Or.inr (Or.inr (Or.inr (Or.inr (Or.inr h)))))))
  unfold lw_tbl tables_1
  simp only [List.mem_append]
  exact key
noncomputable def ev_at (w : Cond) (l : List Cond) : Nat → Bool :=
  List.rec (motive := fun _ => Nat → Bool) (fun _ => false) (fun x _ ih n => Nat.rec (motive := fun _ => Bool) (decide (x = w)) (fun m _ => ih m) n) l
theorem ev_at_in {w : Cond} {l : List Cond} : ∀ {n : Nat}, ev_at w l n = true → w ∈ l := by
  induction l with
  | nil => intro n h; exact absurd h (by simp [ev_at])
  | cons x xs ih =>
    intro n h
    cases n with
    | zero =>
      have h : decide (x = w) = true := h
      rw [of_decide_eq_true h]
      exact List.mem_cons_self
    | succ m => exact List.mem_cons_of_mem _ (ih (n := m) h)
noncomputable def ev_w (ws : List Nat) (n : Nat) (w : Cond) : Bool := ev_at w (ev_tb (Nat.div (ws.getD n 0) 1000)) (Nat.mod (ws.getD n 0) 1000) && goodWord w
theorem ev_w_in {ws : List Nat} {n : Nat} {w : Cond} (h : ev_w ws n w = true) : w ∈ en_WS := by
  simp only [ev_w, Bool.and_eq_true] at h
  exact List.mem_filter.mpr ⟨ev_tb_in (ev_at_in h.1), h.2⟩
noncomputable def ev_wn (ws : List Nat) (n : Nat) (w : Cond) : Bool := ev_at w (ev_tb (Nat.div (ws.getD n 0) 1000)) (Nat.mod (ws.getD n 0) 1000) && en_isN w
theorem ev_wn_in {ws : List Nat} {n : Nat} {w : Cond} (h : ev_wn ws n w = true) : w ∈ en_NW := by
  simp only [ev_wn, Bool.and_eq_true] at h
  exact List.mem_filter.mpr ⟨ev_tb_in (ev_at_in h.1), h.2⟩
def ev_tgt (pc : Nat) (off : Int) : Nat := ((pc : Int) + off).toNat
noncomputable def ev_sem (pc : Nat) (ins : Instr) (h1 h2 h3 h4 : Nat) : ev_Op := match ins with
  | .iconst i => eo_push (0, ev_u (Int32.ofInt i), 0)
  | .bipush i => eo_push (0, ev_u (Int8.ofInt i).toInt32, 0)
  | .sipush i => eo_push (0, ev_u (Int16.ofInt i).toInt32, 0)
  | .ldc _ => if h4 = 1 then eo_push (0, h1, 0) else eo_none
  | .ldc_w _ => if h4 = 1 then eo_push (0, h1, 0) else eo_none
  | .lconst n => eo_push (4, n.val, 0)
  | .iload i => eo_iload i
  | .iload_n i => eo_iload i.val
  | .aload i => eo_aload i
  | .aload_n i => eo_aload i.val
  | .istore i => eo_istore i
  | .istore_n i => eo_istore i.val
  | .astore i => eo_astore i
  | .astore_n i => eo_astore i.val
  | .iinc i n => eo_iinc i (ev_u (Int32.ofInt n))
  | .iadd => eo_bin eb_add
  | .isub => eo_bin eb_sub
  | .imul => eo_bin eb_mul
  | .iand => eo_bin eb_and
  | .ior => eo_bin eb_or
  | .ixor => eo_bin eb_xor
  | .ishl => eo_bin eb_shl
  | .ishr => eo_bin eb_shr
  | .iushr => eo_bin ev_ushr
  | .idiv => eo_div eb_div
  | .irem => eo_div eb_rem
  | .ineg => eo_un eb_neg
  | .i2b => eo_un eb_i2b
  | .dup => eo_dup
  | .dup2 => eo_dup2
  | .pop => eo_pop
  | .ifCond c _ => eo_ifc c h1
  | .if_icmp c _ => eo_icmp c h1
  | .goto _ => eo_goto h1
  | .tableswitch d lo _ offs => eo_tab (lo + 2147483648).toNat (offs.toList.map (ev_tgt pc)) (ev_tgt pc d)
  | .lookupswitch d ps => if h4 = 1 then eo_tab h1 (ps.toList.map (fun q => ev_tgt pc q.2)) (ev_tgt pc d) else eo_none
  | .getfield _ => if h4 = 9 then eo_none else eo_getf h1 h2
  | .putfield _ => if h4 = 9 then eo_none else eo_putf h1 h2 h4
  | .iaload => eo_ald 50 50
  | .baload => eo_ald 51 52
  | .iastore => eo_iast
  | .bastore => eo_bast
  | .arraylength => eo_alen
  | .newarray t => match t with
    | .int => eo_newa 50 (0, 0, 0)
    | .byte => eo_newa 51 (0, 0, 0)
    | .boolean => eo_newa 52 (0, 0, 0)
    | .long => eo_newa 53 (4, 0, 0)
    | _ => eo_none
  | .new _ => if h4 = 9 then eo_none else eo_new h1 (ev_blank.getD h1 []) h2
  | .invokespecial _ => if h3 = 9 then eo_none else if h3 = 2 then eo_obj else eo_spec h1 h2
  | .invokevirtual _ => if h3 = 9 then eo_none else eo_virt h1 h2 h4
  | .invokestatic _ => if h3 = 9 then eo_none else if h3 = 6 then eo_min else if h3 = 5 then eo_copy else eo_stat h1 h2
  | .ireturn => eo_iret h1
  | .return_ => eo_vret
  | _ => eo_none
/-- the kind of a field by its descriptor -/
def ev_kd (d : String) : Nat := match parseFieldDescriptor d with
  | some .int => 0
  | some .boolean => 1
  | some (.object _) => 2
  | some (.array _) => 2
  | some .long => 3
  | _ => 8
noncomputable def ev_nop (ws : List Nat) (own : String) (idx : Nat) (MT : List ev_M) (h1 h2 h3 : Nat) (f : ev_M → Bool) : Bool := match MT[h1]? with
  | none => false
  | some M => f M && ((if h3 = 1 then ev_wn ws 0 (.methodLinkNest own idx M.1 "MeadowSigns") else ev_w ws 0 (.methodLink own idx M.1)) && (ev_w ws 1 (.code M.1 M.2.1 M.2.2.1 M.2.2.2) && (ev_w ws 2 (.initialized M.1.cls) && (decide (M.1.cls ≠ "java/lang/invoke/MethodHandle" ∧ M.1.cls ≠ "java/lang/invoke/VarHandle" ∧ (parseMethodDescriptor M.1.desc).map (fun d => d.parameters.length) = some h2) && decide (M.2.2.1 ≤ 41)))))
noncomputable def ev_ok1 (MT : List ev_M) (own : String) (ini : Bool) (ret : Option FieldType) (pc : Nat) (ins : Instr) (len h1 h2 h3 h4 : Nat) (ws : List Nat) : Bool := match ins with
  | .iconst _ | .lconst _ | .iload_n _ | .aload_n _ | .istore_n _ | .astore_n _ | .iadd | .isub | .imul | .iand | .ior | .ixor | .ishl | .ishr | .iushr | .idiv | .irem | .ineg | .i2b | .dup | .dup2 | .pop | .iaload | .baload | .iastore | .bastore | .arraylength => decide (len = 1)
  | .bipush _ | .iload _ | .aload _ | .istore _ | .astore _ => decide (len = 2)
  | .sipush _ | .iinc _ _ => decide (len = 3)
  | .ldc idx => decide (len = 2) && (decide (h4 ≠ 1) || ev_w ws 0 (.constant own idx (ev_i h1)))
  | .ldc_w idx => decide (len = 3) && (decide (h4 ≠ 1) || ev_w ws 0 (.constant own idx (ev_i h1)))
  | .ifCond _ off | .if_icmp _ off | .goto off => decide (len = 3) && decide ((pc : Int) + off = (h1 : Int))
  | .tableswitch d lo hi offs => decide (-2147483648 ≤ lo ∧ hi = lo + offs.size - 1 ∧ 0 ≤ (pc : Int) + d) && offs.toList.all (fun o => decide (0 ≤ (pc : Int) + o))
  | .lookupswitch d ps => decide (¬ h4 = 1) || (decide (0 ≤ (pc : Int) + d ∧ (ps.toList.map (fun q => q.1)) = (List.range ps.toList.length).map (fun (j : Nat) => (h1 : Int) - 2147483648 + (j : Int))) && ((ps.toList.zip (ps.toList.drop 1)).all (fun (a, next) => a.1 < next.1) && ps.toList.all (fun q => decide (0 ≤ (pc : Int) + q.2))))
  | .getfield idx => decide (len = 3) && (decide (h4 = 9) || (match en_classes[h1]? with
    | none => false
    | some q => decide (h1 < 50 ∧ h2 < q.2.2) && (if h3 = 1 then ev_wn ws 0 (.fieldLinkNest own idx (q.2.1 h2).1 (q.2.1 h2).2.1 (q.2.1 h2).2.2.1 "MeadowSigns") else ev_w ws 0 (.fieldLink own idx (q.2.1 h2).1 (q.2.1 h2).2.1 (q.2.1 h2).2.2.1))))
  | .putfield idx => decide (len = 3) && (decide (h4 = 9) || (match en_classes[h1]? with
    | none => false
    | some q => decide (h1 < 50 ∧ h2 < q.2.2 ∧ ev_kd (q.2.1 h2).2.2.1 = h4 ∧ h4 ≤ 3) && (if h3 = 1 then ev_wn ws 0 (.fieldLinkNest own idx (q.2.1 h2).1 (q.2.1 h2).2.1 (q.2.1 h2).2.2.1 "MeadowSigns") else ev_w ws 0 (.fieldLink own idx (q.2.1 h2).1 (q.2.1 h2).2.1 (q.2.1 h2).2.2.1)) && (if h3 = 2 then decide ((q.2.1 h2).2.2.2 = true ∧ ini = true ∧ (q.2.1 h2).1 = own) else decide ((q.2.1 h2).2.2.2 = false))))
  | .newarray t => decide (len = 2) && ev_w ws 0 (.arrayClass (newarray.typeOf t))
  | .new idx => decide (len = 3) && (decide (h4 = 9) || (match en_classes[h1]? with
    | none => false
    | some q => decide (h1 < 50 ∧ h2 = q.2.2 ∧ (ev_blank.getD h1 []).length = h2) && (ev_w ws 0 (.classLink own idx q.1) && (ev_w ws 1 (.instantiable q.1 q.2.2) && (ev_w ws 2 (.initialized q.1) && (List.range h2).all (fun j => decide ((ev_blank.getD h1 [])[j]? = some (match ev_kd (q.2.1 j).2.2.1 with | 0 => (0, 0, 0) | 1 => (0, 0, 0) | 2 => (3, 0, 0) | _ => (4, 0, 0))) && decide (ev_kd (q.2.1 j).2.2.1 ≤ 3)))))))
  | .invokespecial idx => decide (len = 3) && (decide (h3 = 9) || (if h3 = 2 then ev_w ws 0 (.methodLink own idx objectInit) && (ev_w ws 1 (.instanceMethod objectInit) && ev_w ws 2 (.code objectInit ⟨#[0xb1]⟩ 1 none)) else ev_nop ws own idx MT h1 h2 h3 (fun M => ev_w ws 3 (.instanceMethod M.1) && decide (M.1.name = "<init>" ∧ M.2.2.2 = none))))
  | .invokevirtual idx => decide (len = 3) && (decide (h3 = 9) || ev_nop ws own idx MT h1 h2 h3 (fun M => ev_w ws 3 (.instanceMethod M.1) && (ev_w ws 4 (.selects M.1.cls M.1 M.1) && decide (h4 < 50 ∧ (en_classes[h4]?).map (fun q => q.1) = some M.1.cls))))
  | .invokestatic idx => decide (len = 3) && (decide (h3 = 9) || (if h3 = 6 then ev_w ws 0 (.methodLink own idx Lib.Math.min.name) && (ev_w ws 1 (.code Lib.Math.min.name Lib.Math.min.code 2 (some .int)) && (ev_w ws 2 (.initialized "java/lang/Math") && ev_w ws 3 (.static Lib.Math.min.name))) else if h3 = 5 then ev_w ws 0 (.methodLink own idx arraycopyName) && (ev_w ws 1 (.native arraycopyName) && (ev_w ws 2 (.static arraycopyName) && ev_w ws 3 (.initialized "java/lang/System"))) else ev_nop ws own idx MT h1 h2 h3 (fun M => ev_w ws 3 (.static M.1))))
  | .ireturn => decide (len = 1) && decide (h1 = 0 ∧ ret = some .int ∨ h1 = 1 ∧ ret = some .boolean)
  | .return_ => decide (len = 1) && decide (ret = none)
  | _ => true
