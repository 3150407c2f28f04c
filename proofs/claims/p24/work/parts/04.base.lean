/-! ===== what the tables must be ===== -/
def tk (t : FieldType) : Nat := match t with
  | .long => 1
  | .object _ => 2
  | .array _ => 2
  | .float => 3
  | .double => 3
  | _ => 0
noncomputable def flds (ci : Nat) : List mFl := match mF[ci]? with
  | some q => q.2
  | none => []
def ftyOf (fl : List mFl) (k : Nat) : FieldType := match fl[k]? with
  | some f => f.2.2.2
  | none => .float
def fTof (C : String) (fl : List mFl) : u_T := fun k => match fl[k]? with
  | some f => (C, f.1, f.2.1, f.2.2.1)
  | none => ("", "", "", false)
def ilen (ins : Instr) : Nat := match ins with
  | .bipush _ => 2
  | .sipush _ => 3
  | .ldc _ => 2
  | .ldc_w _ => 3
  | .ldc2_w _ => 3
  | .iload _ => 2
  | .lload _ => 2
  | .aload _ => 2
  | .istore _ => 2
  | .lstore _ => 2
  | .astore _ => 2
  | .iinc _ _ => 3
  | .ifCond _ _ => 3
  | .if_icmp _ _ => 3
  | .goto _ => 3
  | .ifnull _ => 3
  | .ifnonnull _ => 3
  | .getfield _ => 3
  | .putfield _ => 3
  | .invokevirtual _ => 3
  | .invokespecial _ => 3
  | .invokestatic _ => 3
  | .new _ => 3
  | .newarray _ => 2
  | .anewarray _ => 3
  | .tableswitch _ _ _ _ => 0
  | .lookupswitch _ _ => 0
  | _ => 1
/-- a row of the code's table: its links stand in the tables of links, by numbers alone -/
noncomputable def okL (co : Nat) (e : mIn) : Bool := match e with
  | (pc, ins, _, a, b, v, h) => match ins with
    | .getfield i => decide ((mFLt[h]?).map (fun q => (q.1, q.2.1, q.2.2.1, q.2.2.2.1)) = some (co, i, a, b))
    | .putfield i => decide ((mFLt[h]?).map (fun q => (q.1, q.2.1, q.2.2.1, q.2.2.2.1)) = some (co, i, a, b))
    | .ifCond _ o => decide ((pc : Int) + o = (a : Int))
    | .if_icmp _ o => decide ((pc : Int) + o = (a : Int))
    | .goto o => decide ((pc : Int) + o = (a : Int))
    | .lookupswitch _ ps => (ps.toList.zip (ps.toList.drop 1)).all (fun (x, next) => x.1 < next.1)
    | .ldc i => decide ((mKIt[h]?).map (fun q => (q.1, q.2.1, q.2.2.1)) = some (co, i, v))
    | .ldc_w i => decide ((mKIt[h]?).map (fun q => (q.1, q.2.1, q.2.2.1)) = some (co, i, v))
    | .ldc2_w i => decide ((mKLt[h]?).map (fun q => (q.1, q.2.1, q.2.2.1)) = some (co, i, v))
    | .new i => decide ((mCLt[h]?).map (fun q => (q.1, q.2.1, q.2.2.1)) = some (co, i, a))
    | .anewarray i => decide ((mCAt[h]?).map (fun q => (q.1, q.2.1)) = some (co, i))
    | .invokespecial i => if b = 9 then decide ((mOIt[h]?).map (fun q => (q.1, q.2.1)) = some (co, i)) else decide ((mMLt[h]?).map (fun q => (q.1, q.2.1, q.2.2.1, q.2.2.2.1)) = some (co, i, a, b))
    | .invokevirtual i => decide (¬ b = 9) && decide ((mMLt[h]?).map (fun q => (q.1, q.2.1, q.2.2.1, q.2.2.2.1)) = some (co, i, a, b))
    | .invokestatic i => decide (¬ b = 9) && decide ((mMLt[h]?).map (fun q => (q.1, q.2.1, q.2.2.1, q.2.2.2.1)) = some (co, i, a, b))
    | _ => true
/-! instructions as numbers: two that have the same numbers are the same -/
def ie0 : Int → Int → Bool
  | .ofNat a, .ofNat b => Nat.beq a b
  | .negSucc a, .negSucc b => Nat.beq a b
  | _, _ => false
theorem ie0_ok : ∀ {a b : Int}, ie0 a b = true → a = b
  | .ofNat a, .ofNat b, h => by rw [Nat.eq_of_beq_eq_true h]
  | .negSucc a, .negSucc b, h => by rw [Nat.eq_of_beq_eq_true h]
  | .ofNat _, .negSucc _, h => by cases h
  | .negSucc _, .ofNat _, h => by cases h
def cdn (c : Jvm.ClassFile.Cond) : Nat := match c with
  | .eq => 0
  | .ne => 1
  | .lt => 2
  | .ge => 3
  | .gt => 4
  | .le => 5
def ncd (n : Nat) : Jvm.ClassFile.Cond := match n with
  | 0 => .eq
  | 1 => .ne
  | 2 => .lt
  | 3 => .ge
  | 4 => .gt
  | _ => .le
theorem ncd_ok (c : Jvm.ClassFile.Cond) : ncd (cdn c) = c := by cases c <;> rfl
def ienc (a : Instr) : Nat × Int × Int := match a with
  | .iaload => (1, 0, 0)
  | .ireturn => (2, 0, 0)
  | .iadd => (3, 0, 0)
  | .iastore => (4, 0, 0)
  | .return_ => (5, 0, 0)
  | .pop => (6, 0, 0)
  | .isub => (7, 0, 0)
  | .imul => (8, 0, 0)
  | .dup => (9, 0, 0)
  | .dup2 => (10, 0, 0)
  | .idiv => (11, 0, 0)
  | .baload => (12, 0, 0)
  | .i2l => (13, 0, 0)
  | .bastore => (14, 0, 0)
  | .irem => (15, 0, 0)
  | .l2i => (16, 0, 0)
  | .iand => (17, 0, 0)
  | .lcmp => (18, 0, 0)
  | .laload => (19, 0, 0)
  | .lreturn => (20, 0, 0)
  | .ishr => (21, 0, 0)
  | .arraylength => (22, 0, 0)
  | .ishl => (23, 0, 0)
  | .lastore => (24, 0, 0)
  | .ior => (25, 0, 0)
  | .ixor => (26, 0, 0)
  | .ladd => (27, 0, 0)
  | .i2b => (28, 0, 0)
  | .land => (29, 0, 0)
  | .lshl => (30, 0, 0)
  | .ineg => (31, 0, 0)
  | .areturn => (32, 0, 0)
  | .i2s => (33, 0, 0)
  | .lor => (34, 0, 0)
  | .pop2 => (35, 0, 0)
  | .lshr => (36, 0, 0)
  | .aastore => (37, 0, 0)
  | .aaload => (38, 0, 0)
  | .aconst_null => (39, 0, 0)
  | .lmul => (40, 0, 0)
  | .lsub => (41, 0, 0)
  | .aload x => (42, Int.ofNat x, 0)
  | .anewarray x => (43, Int.ofNat x, 0)
  | .astore x => (44, Int.ofNat x, 0)
  | .getfield x => (45, Int.ofNat x, 0)
  | .iload x => (46, Int.ofNat x, 0)
  | .invokespecial x => (47, Int.ofNat x, 0)
  | .invokestatic x => (48, Int.ofNat x, 0)
  | .invokevirtual x => (49, Int.ofNat x, 0)
  | .istore x => (50, Int.ofNat x, 0)
  | .ldc x => (51, Int.ofNat x, 0)
  | .ldc_w x => (52, Int.ofNat x, 0)
  | .ldc2_w x => (53, Int.ofNat x, 0)
  | .lload x => (54, Int.ofNat x, 0)
  | .lstore x => (55, Int.ofNat x, 0)
  | .new x => (56, Int.ofNat x, 0)
  | .putfield x => (57, Int.ofNat x, 0)
  | .aload_n x => (58, Int.ofNat x.val, 0)
  | .astore_n x => (59, Int.ofNat x.val, 0)
  | .iload_n x => (60, Int.ofNat x.val, 0)
  | .istore_n x => (61, Int.ofNat x.val, 0)
  | .lload_n x => (62, Int.ofNat x.val, 0)
  | .lstore_n x => (63, Int.ofNat x.val, 0)
  | .bipush x => (64, x, 0)
  | .goto x => (65, x, 0)
  | .iconst x => (66, x, 0)
  | .sipush x => (67, x, 0)
  | .ifnonnull x => (68, x, 0)
  | .ifCond c x => (69, Int.ofNat (cdn c), x)
  | .if_icmp c x => (70, Int.ofNat (cdn c), x)
  | .iinc n x => (71, Int.ofNat n, x)
  | _ => (0, 0, 0)
def idec (n : Nat) (y z : Int) : Instr := match n with
  | 1 => .iaload
  | 2 => .ireturn
  | 3 => .iadd
  | 4 => .iastore
  | 5 => .return_
  | 6 => .pop
  | 7 => .isub
  | 8 => .imul
  | 9 => .dup
  | 10 => .dup2
  | 11 => .idiv
  | 12 => .baload
  | 13 => .i2l
  | 14 => .bastore
  | 15 => .irem
  | 16 => .l2i
  | 17 => .iand
  | 18 => .lcmp
  | 19 => .laload
  | 20 => .lreturn
  | 21 => .ishr
  | 22 => .arraylength
  | 23 => .ishl
  | 24 => .lastore
  | 25 => .ior
  | 26 => .ixor
  | 27 => .ladd
  | 28 => .i2b
  | 29 => .land
  | 30 => .lshl
  | 31 => .ineg
  | 32 => .areturn
  | 33 => .i2s
  | 34 => .lor
  | 35 => .pop2
  | 36 => .lshr
  | 37 => .aastore
  | 38 => .aaload
  | 39 => .aconst_null
  | 40 => .lmul
  | 41 => .lsub
  | 42 => .aload y.toNat
  | 43 => .anewarray y.toNat
  | 44 => .astore y.toNat
  | 45 => .getfield y.toNat
  | 46 => .iload y.toNat
  | 47 => .invokespecial y.toNat
  | 48 => .invokestatic y.toNat
  | 49 => .invokevirtual y.toNat
  | 50 => .istore y.toNat
  | 51 => .ldc y.toNat
  | 52 => .ldc_w y.toNat
  | 53 => .ldc2_w y.toNat
  | 54 => .lload y.toNat
  | 55 => .lstore y.toNat
  | 56 => .new y.toNat
  | 57 => .putfield y.toNat
  | 58 => .aload_n (Fin.ofNat 4 y.toNat)
  | 59 => .astore_n (Fin.ofNat 4 y.toNat)
  | 60 => .iload_n (Fin.ofNat 4 y.toNat)
  | 61 => .istore_n (Fin.ofNat 4 y.toNat)
  | 62 => .lload_n (Fin.ofNat 4 y.toNat)
  | 63 => .lstore_n (Fin.ofNat 4 y.toNat)
  | 64 => .bipush y
  | 65 => .goto y
  | 66 => .iconst y
  | 67 => .sipush y
  | 68 => .ifnonnull y
  | 69 => .ifCond (ncd y.toNat) z
  | 70 => .if_icmp (ncd y.toNat) z
  | 71 => .iinc y.toNat z
  | _ => .nop
theorem fin4 (x : Fin 4) : Fin.ofNat 4 (Int.ofNat x.val).toNat = x := Fin.ext (Nat.mod_eq_of_lt x.isLt)
theorem idec_ok (a : Instr) (h : ¬ (ienc a).1 = 0) : idec (ienc a).1 (ienc a).2.1 (ienc a).2.2 = a := by
  cases a
  case aaload => exact rfl
  case aastore => exact rfl
  case aconst_null => exact rfl
  case aload v0 => exact rfl
  case aload_n v0 => exact congrArg Instr.aload_n (fin4 v0)
  case anewarray v0 => exact rfl
  case areturn => exact rfl
  case arraylength => exact rfl
  case astore v0 => exact rfl
  case astore_n v0 => exact congrArg Instr.astore_n (fin4 v0)
  case athrow => exact absurd rfl h
  case baload => exact rfl
  case bastore => exact rfl
  case bipush v0 => exact rfl
  case caload => exact absurd rfl h
  case castore => exact absurd rfl h
  case checkcast v0 => exact absurd rfl h
  case d2f => exact absurd rfl h
  case d2i => exact absurd rfl h
  case d2l => exact absurd rfl h
  case dadd => exact absurd rfl h
  case daload => exact absurd rfl h
  case dastore => exact absurd rfl h
  case dcmp v0 => exact absurd rfl h
  case dconst v0 => exact absurd rfl h
  case ddiv => exact absurd rfl h
  case dload v0 => exact absurd rfl h
  case dload_n v0 => exact absurd rfl h
  case dmul => exact absurd rfl h
  case dneg => exact absurd rfl h
  case drem => exact absurd rfl h
  case dreturn => exact absurd rfl h
  case dstore v0 => exact absurd rfl h
  case dstore_n v0 => exact absurd rfl h
  case dsub => exact absurd rfl h
  case dup => exact rfl
  case dup_x1 => exact absurd rfl h
  case dup_x2 => exact absurd rfl h
  case dup2 => exact rfl
  case dup2_x1 => exact absurd rfl h
  case dup2_x2 => exact absurd rfl h
  case f2d => exact absurd rfl h
  case f2i => exact absurd rfl h
  case f2l => exact absurd rfl h
  case fadd => exact absurd rfl h
  case faload => exact absurd rfl h
  case fastore => exact absurd rfl h
  case fcmp v0 => exact absurd rfl h
  case fconst v0 => exact absurd rfl h
  case fdiv => exact absurd rfl h
  case fload v0 => exact absurd rfl h
  case fload_n v0 => exact absurd rfl h
  case fmul => exact absurd rfl h
  case fneg => exact absurd rfl h
  case frem => exact absurd rfl h
  case freturn => exact absurd rfl h
  case fstore v0 => exact absurd rfl h
  case fstore_n v0 => exact absurd rfl h
  case fsub => exact absurd rfl h
  case getfield v0 => exact rfl
  case getstatic v0 => exact absurd rfl h
  case goto v0 => exact rfl
  case goto_w v0 => exact absurd rfl h
  case i2b => exact rfl
  case i2c => exact absurd rfl h
  case i2d => exact absurd rfl h
  case i2f => exact absurd rfl h
  case i2l => exact rfl
  case i2s => exact rfl
  case iadd => exact rfl
  case iaload => exact rfl
  case iand => exact rfl
  case iastore => exact rfl
  case iconst v0 => exact rfl
  case idiv => exact rfl
  case if_acmp v0 v1 => exact absurd rfl h
  case if_icmp v0 v1 => exact congrArg (fun c => Instr.if_icmp c v1) (ncd_ok v0)
  case ifCond v0 v1 => exact congrArg (fun c => Instr.ifCond c v1) (ncd_ok v0)
  case ifnonnull v0 => exact rfl
  case ifnull v0 => exact absurd rfl h
  case iinc v0 v1 => exact rfl
  case iload v0 => exact rfl
  case iload_n v0 => exact congrArg Instr.iload_n (fin4 v0)
  case imul => exact rfl
  case ineg => exact rfl
  case instanceof v0 => exact absurd rfl h
  case invokedynamic v0 => exact absurd rfl h
  case invokeinterface v0 v1 => exact absurd rfl h
  case invokespecial v0 => exact rfl
  case invokestatic v0 => exact rfl
  case invokevirtual v0 => exact rfl
  case ior => exact rfl
  case irem => exact rfl
  case ireturn => exact rfl
  case ishl => exact rfl
  case ishr => exact rfl
  case istore v0 => exact rfl
  case istore_n v0 => exact congrArg Instr.istore_n (fin4 v0)
  case isub => exact rfl
  case iushr => exact absurd rfl h
  case ixor => exact rfl
  case jsr v0 => exact absurd rfl h
  case jsr_w v0 => exact absurd rfl h
  case l2d => exact absurd rfl h
  case l2f => exact absurd rfl h
  case l2i => exact rfl
  case ladd => exact rfl
  case laload => exact rfl
  case land => exact rfl
  case lastore => exact rfl
  case lcmp => exact rfl
  case lconst v0 => exact absurd rfl h
  case ldc v0 => exact rfl
  case ldc_w v0 => exact rfl
  case ldc2_w v0 => exact rfl
  case ldiv => exact absurd rfl h
  case lload v0 => exact rfl
  case lload_n v0 => exact congrArg Instr.lload_n (fin4 v0)
  case lmul => exact rfl
  case lneg => exact absurd rfl h
  case lookupswitch v0 v1 => exact absurd rfl h
  case lor => exact rfl
  case lrem => exact absurd rfl h
  case lreturn => exact rfl
  case lshl => exact rfl
  case lshr => exact rfl
  case lstore v0 => exact rfl
  case lstore_n v0 => exact congrArg Instr.lstore_n (fin4 v0)
  case lsub => exact rfl
  case lushr => exact absurd rfl h
  case lxor => exact absurd rfl h
  case monitorenter => exact absurd rfl h
  case monitorexit => exact absurd rfl h
  case multianewarray v0 v1 => exact absurd rfl h
  case new v0 => exact rfl
  case newarray v0 => exact absurd rfl h
  case nop => exact absurd rfl h
  case pop => exact rfl
  case pop2 => exact rfl
  case putfield v0 => exact rfl
  case putstatic v0 => exact absurd rfl h
  case ret v0 => exact absurd rfl h
  case return_ => exact rfl
  case saload => exact absurd rfl h
  case sastore => exact absurd rfl h
  case sipush v0 => exact rfl
  case swap => exact absurd rfl h
  case tableswitch v0 v1 v2 v3 => exact absurd rfl h
def qI (a b : Instr) : Bool := Nat.beq (ienc a).1 (ienc b).1 && (!(Nat.beq (ienc a).1 0) && (ie0 (ienc a).2.1 (ienc b).2.1 && ie0 (ienc a).2.2 (ienc b).2.2))
theorem qI_ok {a b : Instr} (h : qI a b = true) : a = b := by
  unfold qI at h
  simp only [Bool.and_eq_true, Bool.not_eq_true'] at h
  obtain ⟨h1, h2, h3, h4⟩ := h
  have e1 := Nat.eq_of_beq_eq_true h1
  have e3 := ie0_ok h3
  have e4 := ie0_ok h4
  have na : ¬ (ienc a).1 = 0 := fun e => by
    rw [e] at h2
    exact absurd h2 (by decide)
  have nb : ¬ (ienc b).1 = 0 := by
    rw [← e1]
    exact na
  rw [← idec_ok a na, ← idec_ok b nb, e1, e3, e4]
noncomputable def okE (co : Nat) (bytes : ByteArray) (e : mIn) : Bool := match decode bytes e.1 with
  | .ok q => (qI q.1 e.2.1 || decide (q.1 = e.2.1)) && decide (q.2 = e.2.2.1) && (decide (e.2.2.1 = ilen e.2.1) || decide (ilen e.2.1 = 0)) && okL co e
  | .error _ => false
/-- the words that the rows of the tables of links name -/
noncomputable def mcn (co : Nat) : String := mN.getD co ""
noncomputable def mfn (ci k : Nat) : mFl := (((mF[ci]?).map (fun q => q.2)).getD []).getD k ("", "", false, .float)
noncomputable def mmn (a : Nat) : MethodName := ((mt a).map (fun M => M.2.1)).getD ⟨"", "", ""⟩
noncomputable def flC (q : Nat × Nat × Nat × Nat × Nat) : Cond := .fieldLink (mcn q.1) q.2.1 (mcn q.2.2.1) (mfn q.2.2.1 q.2.2.2.1).1 (mfn q.2.2.1 q.2.2.2.1).2.1
noncomputable def mlC (q : Nat × Nat × Nat × Nat × Nat) : Cond := match q.2.2.2.1 with
  | 0 => .methodLink (mcn q.1) q.2.1 (mmn q.2.2.1)
  | _ => .methodLinkNest (mcn q.1) q.2.1 (mmn q.2.2.1) "PointsHome"
noncomputable def oiC (q : Nat × Nat × Nat) : Cond := .methodLink (mcn q.1) q.2.1 objectInit
noncomputable def clC (q : Nat × Nat × Nat × Nat) : Cond := .classLink (mcn q.1) q.2.1 (mcn q.2.2.1)
noncomputable def caC (q : Nat × Nat × Nat) : Cond := .classLink (mcn q.1) q.2.1 "[I"
noncomputable def kiC (q : Nat × Nat × Int × Nat) : Cond := .constant (mcn q.1) q.2.1 (Int32.ofInt q.2.2.1)
noncomputable def klC (q : Nat × Nat × Int × Nat) : Cond := .constantLong (mcn q.1) q.2.1 (Int64.ofInt q.2.2.1)
/-- the words at told places, by one pass: how many are passed over ahead of each -/
def pickW : List Cond → List Nat → List (Option Cond)
  | [], _ => []
  | _ :: _, [] => []
  | a :: l, 0 :: gs => some a :: pickW l gs
  | _ :: l, (g + 1) :: gs => pickW l (g :: gs)
theorem pick_mem : ∀ {l : List Cond} {gs : List Nat} {c : Cond}, some c ∈ pickW l gs → c ∈ l
  | [], _, _, h => by cases h
  | _ :: _, [], _, h => by cases h
  | a :: l, 0 :: gs, c, h => by
    have h : some c ∈ some a :: pickW l gs := h
    rcases List.mem_cons.mp h with e | h
    · cases e
      exact List.mem_cons_self
    · exact List.mem_cons_of_mem _ (pick_mem h)
  | _ :: l, (g + 1) :: gs, c, h => List.mem_cons_of_mem _ (pick_mem (l := l) (gs := g :: gs) h)
/-- every word of a table stands among the words -/
theorem tab_in {α : Type} {T : List α} {g : List Nat} {C : α → Cond} (e : pickW lw_tbl g = T.map (fun q => some (C q))) {n : Nat} {q : α} (hq : T[n]? = some q) : C q ∈ lw_tbl := pick_mem (gs := g) (by rw [e]; exact List.mem_map.mpr ⟨q, List.mem_of_getElem? hq, rfl⟩)
/-- of a class: its fields' types and kinds, their names unlike -/
noncomputable def okK (q : String × List mFl) : Bool := (List.range q.2.length).all (fun k => decide (parseFieldDescriptor (fTof q.1 q.2 k).2.2.1 = some (ftyOf q.2 k)) && decide (tk (ftyOf q.2 k) < 3))
noncomputable def mcC (M : mMt) : Cond := .code M.2.1 M.2.2.1 M.2.2.2.1 M.2.2.2.2.1
noncomputable def miC (M : mMt) : Cond := bif M.2.2.2.2.2.1 then .static M.2.1 else .instanceMethod M.2.1
noncomputable def msC (M : mMt) : Cond := .selects M.2.1.cls M.2.1 M.2.1
/-- not called by choice: static, or <init> -/
noncomputable def mvi (M : mMt) : Bool := M.2.2.2.2.2.1 || decide (¬ M.2.2.2.2.2.2.2 = 99)
theorem all_c {α : Type} {f : α → Bool} {a : α} {l : List α} (h : f a = true) (t : l.all f = true) : (a :: l).all f = true := by
  rw [List.all_cons, h, t]
  rfl
