/-! ===== the world as numbers: cells in the order in which they were made; ints, longs, references by cell and place; and one step of the machine on it ===== -/
abbrev mE : Type := (FieldType × Nat) ⊕ Nat
abbrev mW : Type := List mE × (Nat → Nat → Int32) × (Nat → Nat → Int64) × (Nat → Nat → Option Nat)
abbrev mL : Type := List (Nat × Value)
abbrev mS : Type := Nat × mL × List Value × mW
/-- the law's own script, where it is the law that runs -/
abbrev mX : Type := Option (Nat × (Nat → Int32))
def up2 {α : Type} (f : Nat → Nat → α) (a k : Nat) (v : α) : Nat → Nat → α := fun i j => if i = a then (if j = k then v else f i j) else f i j
def zr {α : Type} (f : Nat → Nat → α) (a : Nat) (v : α) : Nat → Nat → α := fun i j => if i = a then v else f i j
def lkp (ls : mL) (i : Nat) : Option Value := (ls.find? (fun q => q.1 == i)).map (fun q => q.2)
def sto1 (ls : mL) (i : Nat) (v : Value) : mL := (i, v) :: ls.filter (fun q => !(q.1 == i) && !(q.1 + 1 == i && q.2.category == 2))
def sto2 (ls : mL) (i : Nat) (v : Value) : mL := (i, v) :: ls.filter (fun q => !(q.1 == i) && (!(q.1 == i + 1) && !(q.1 + 1 == i && q.2.category == 2)))
def ibin (ins : Instr) (x y : Int32) : Option Int32 := match ins with
  | .iadd => some (x + y)
  | .isub => some (x - y)
  | .imul => some (x * y)
  | .iand => some (x &&& y)
  | .ior => some (x ||| y)
  | .ixor => some (x ^^^ y)
  | .ishl => some (x <<< (y &&& 31))
  | .ishr => some (x >>> (y &&& 31))
  | .idiv => if y = 0 then none else some (x / y)
  | .irem => if y = 0 then none else some (x - x / y * y)
  | _ => none
def lbin (ins : Instr) (x y : Int64) : Option Int64 := match ins with
  | .ladd => some (x + y)
  | .lsub => some (x - y)
  | .lmul => some (x * y)
  | .land => some (x &&& y)
  | .lor => some (x ||| y)
  | .lxor => some (x ^^^ y)
  | _ => none
def lsh (ins : Instr) (x : Int64) (y : Int32) : Option Int64 := match ins with
  | .lshl => some (x <<< (y.toInt64 &&& 63))
  | .lshr => some (x >>> (y.toInt64 &&& 63))
  | _ => none
def iun (ins : Instr) (x : Int32) : Option Int32 := match ins with
  | .ineg => some (-x)
  | .i2b => some x.toInt8.toInt32
  | .i2s => some x.toInt16.toInt32
  | _ => none
/-- a value comes on the stack out of nothing, or out of a local -/
def psh (ins : Instr) (ls : mL) : Option Value := match ins with
  | .iconst n => some (.int (Int32.ofInt n))
  | .bipush n => some (.int (Int8.ofInt n).toInt32)
  | .sipush n => some (.int (Int16.ofInt n).toInt32)
  | .lconst n => some (.long (Int64.ofNat (n : Nat)))
  | .iload_n k => match lkp ls (k : Nat) with
    | some (.int x) => some (.int x)
    | _ => none
  | .iload i => match lkp ls i with
    | some (.int x) => some (.int x)
    | _ => none
  | .lload_n k => match lkp ls (k : Nat) with
    | some (.long x) => some (.long x)
    | _ => none
  | .lload i => match lkp ls i with
    | some (.long x) => some (.long x)
    | _ => none
  | .aload_n k => match lkp ls (k : Nat) with
    | some (.ref x) => some (.ref x)
    | some (.retAddr x) => some (.retAddr x)
    | _ => none
  | .aload i => match lkp ls i with
    | some (.ref x) => some (.ref x)
    | some (.retAddr x) => some (.retAddr x)
    | _ => none
  | _ => none
/-- a value goes from the stack into a local -/
def stl (nL : Nat) (ins : Instr) (ls : mL) (v : Value) : Option mL := match ins, v with
  | .istore_n k, .int x => if (k : Nat) < nL then some (sto1 ls (k : Nat) (.int x)) else none
  | .istore i, .int x => if i < nL then some (sto1 ls i (.int x)) else none
  | .lstore_n k, .long x => if (k : Nat) + 1 < nL then some (sto2 ls (k : Nat) (.long x)) else none
  | .lstore i, .long x => if i + 1 < nL then some (sto2 ls i (.long x)) else none
  | .astore_n k, .ref x => if (k : Nat) < nL then some (sto1 ls (k : Nat) (.ref x)) else none
  | .astore i, .ref x => if i < nL then some (sto1 ls i (.ref x)) else none
  | _, _ => none
/-- the stack alone -/
def stk (ins : Instr) (st : List Value) : Option (List Value) := match ins, st with
  | .dup, v :: r => if v.category = 1 then some (v :: v :: r) else none
  | .pop, v :: r => if v.category = 1 then some r else none
  | .pop2, .long _ :: r => some r
  | .dup_x1, v :: u :: r => if v.category = 1 ∧ u.category = 1 then some (v :: u :: v :: r) else none
  | .dup2, v :: u :: r => if v.category = 1 ∧ u.category = 1 then some (v :: u :: v :: u :: r) else none
  | .i2l, .int x :: r => some (.long x.toInt64 :: r)
  | .l2i, .long x :: r => some (.int x.toInt32 :: r)
  | .lcmp, .long y :: .long x :: r => some (.int (lg_cmp x y) :: r)
  | ins, .int y :: .int x :: r => match ibin ins x y with
    | some z => some (.int z :: r)
    | none => match iun ins y with
      | some z => some (.int z :: .int x :: r)
      | none => none
  | ins, .long y :: .long x :: r => match lbin ins x y with
    | some z => some (.long z :: r)
    | none => none
  | ins, .int y :: .long x :: r => match lsh ins x y with
    | some z => some (.long z :: r)
    | none => match iun ins y with
      | some z => some (.int z :: .long x :: r)
      | none => none
  | ins, .int y :: r => match iun ins y with
    | some z => some (.int z :: r)
    | none => none
  | _, _ => none
def bcmp (c : Jvm.ClassFile.Cond) (x y : Int32) : Bool := match c with
  | .eq => decide (x = y)
  | .ne => decide (¬ x = y)
  | .lt => decide (x < y)
  | .ge => decide (y ≤ x)
  | .gt => decide (y < x)
  | .le => decide (x ≤ y)
def tgt (pc : Nat) (o : Int) : Option Nat := if 0 ≤ (pc : Int) + o then some ((pc : Int) + o).toNat else none
/-- where it goes on -/
def brn (pc a : Nat) (ins : Instr) (st : List Value) : Option (Nat × List Value) := match ins, st with
  | .goto _, st => some (a, st)
  | .ifCond c _, .int x :: r => some (bif bcmp c x 0 then a else pc + 3, r)
  | .if_icmp c _, .int y :: .int x :: r => some (bif bcmp c x y then a else pc + 3, r)
  | .tableswitch d lo hi offs, .int x :: r => if x.toInt < lo ∨ hi < x.toInt then (tgt pc d).map (fun t => (t, r)) else (offs[(x.toInt - lo).toNat]?).bind (fun o => (tgt pc o).map (fun t => (t, r)))
  | .lookupswitch d ps, .int x :: r => (tgt pc (Op.lookupswitch.offset ps.toList d x.toInt)).map (fun t => (t, r))
  | _, _ => none
def inR (i : Int32) (n : Nat) : Bool := decide (¬ i < 0) && decide (i.toNatClampNeg < n)
def rfO (o : Option Nat) : Value := match o with
  | none => .null
  | some z => .ref z
/-- what a place of a type holds -/
def ldv (w : mW) (q k : Nat) (t : Nat) : Option Value := match t with
  | 0 => some (.int (w.2.1 q k))
  | 1 => some (.long (w.2.2.1 q k))
  | 2 => some (rfO (w.2.2.2 q k))
  | _ => none
noncomputable def ldf (w : mW) (a b : Nat) (st : List Value) : Option (List Value) := match st with
  | .ref q :: r => match w.1[q]? with
    | some (.inr c) => if c = a ∧ b < (flds a).length then (ldv w q b (tk (ftyOf (flds a) b))).map (fun v => v :: r) else none
    | _ => none
  | _ => none
def aok (ins : Instr) (ty : FieldType) : Bool := match ins, ty with
  | .iaload, .int => true
  | .baload, .byte => true
  | .baload, .boolean => true
  | .laload, .long => true
  | .iastore, .int => true
  | .bastore, .byte => true
  | .bastore, .boolean => true
  | .lastore, .long => true
  | _, _ => false
/-- a place of an array is read -/
def lda (X : mX) (w : mW) (ins : Instr) (st : List Value) : Option (List Value) := match ins, st with
  | .arraylength, .ref q :: r => match w.1[q]? with
    | some (.inl (_, n)) => some (.int (Int32.ofNat n) :: r)
    | _ => none
  | .arraylength, .retAddr 0 :: r => match X with
    | some (n, _) => some (.int (Int32.ofNat n) :: r)
    | none => none
  | .iaload, .int i :: .retAddr 0 :: r => match X with
    | some (n, f) => bif inR i n then some (.int (f i.toNatClampNeg) :: r) else none
    | none => none
  | ins, .int i :: .ref q :: r => match w.1[q]? with
    | some (.inl (ty, n)) => bif aok ins ty && inR i n then (match ins with
      | .iaload => some (.int (w.2.1 q i.toNatClampNeg) :: r)
      | .baload => some (.int (w.2.1 q i.toNatClampNeg) :: r)
      | .laload => some (.long (w.2.2.1 q i.toNatClampNeg) :: r)
      | _ => none) else none
    | _ => none
  | _, _ => none
/-- a place of an array is written -/
def sta (w : mW) (ins : Instr) (st : List Value) : Option (List Value × mW) := match w with
  | (sh, I, L, R) => match ins, st with
    | .lastore, .long x :: .int i :: .ref q :: r => match sh[q]? with
      | some (.inl (ty, n)) => bif aok .lastore ty && inR i n then some (r, (sh, I, up2 L q i.toNatClampNeg x, R)) else none
      | _ => none
    | .iastore, .int x :: .int i :: .ref q :: r => match sh[q]? with
      | some (.inl (ty, n)) => bif aok .iastore ty && inR i n then some (r, (sh, up2 I q i.toNatClampNeg x, L, R)) else none
      | _ => none
    | .bastore, .int x :: .int i :: .ref q :: r => match sh[q]? with
      | some (.inl (ty, n)) => bif aok .bastore ty && inR i n then some (r, (sh, up2 I q i.toNatClampNeg (vp_nar ty x), L, R)) else none
      | _ => none
    | _, _ => none
/-- a field is written; a final one by its class's own <init> alone -/
noncomputable def stf (w : mW) (ini : Nat) (a b : Nat) (st : List Value) : Option (List Value × mW) := match w with
  | (sh, I, L, R) => match st with
    | v :: .ref q :: r => match sh[q]? with
      | some (.inr c) => match (flds a)[b]? with
        | some f => bif decide (c = a) && (!f.2.2.1 || decide (ini = a)) then (match f.2.2.2, v with
          | .int, .int x => some (r, (sh, up2 I q b x, L, R))
          | .boolean, .int x => if x = 0 ∨ x = 1 then some (r, (sh, up2 I q b x, L, R)) else none
          | .long, .long x => some (r, (sh, I, up2 L q b x, R))
          | .object _, .ref z => some (r, (sh, I, L, up2 R q b (some z)))
          | .array _, .ref z => some (r, (sh, I, L, up2 R q b (some z)))
          | _, _ => none) else none
        | none => none
      | _ => none
    | _ => none
def nok (t : ArrayType) : Bool := match t with
  | .int => true
  | .boolean => true
  | .byte => true
  | .long => true
  | _ => false
/-- a new cell -/
noncomputable def nwc (w : mW) (a : Nat) (ins : Instr) (st : List Value) : Option (List Value × mW × Nat) := match w with
  | (sh, I, L, R) => match ins, st with
    | .new _, st => if a < mF.length then some (.ref sh.length :: st, (sh ++ [.inr a], zr I sh.length 0, zr L sh.length 0, zr R sh.length none), (flds a).length) else none
    | .newarray t, .int n :: r => bif !(decide (n < 0)) && decide (n.toNatClampNeg ≤ 100000) && nok t then some (.ref sh.length :: r, (sh ++ [.inl (newarray.typeOf t, n.toNatClampNeg)], zr I sh.length 0, zr L sh.length 0, zr R sh.length none), n.toNatClampNeg) else none
    | .anewarray _, .int n :: r => bif !(decide (n < 0)) && decide (n.toNatClampNeg ≤ 100000) then some (.ref sh.length :: r, (sh ++ [.inl (.array .int, n.toNatClampNeg)], zr I sh.length 0, zr L sh.length 0, zr R sh.length none), n.toNatClampNeg) else none
    | _, _ => none
/-- a constant of the pool -/
def ldk (ins : Instr) (v : Int) : Option Value := match ins with
  | .ldc _ => some (.int (Int32.ofInt v))
  | .ldc_w _ => some (.int (Int32.ofInt v))
  | .ldc2_w _ => some (.long (Int64.ofInt v))
  | _ => none
/-- the number of the class whose <init> a method is (99: none) -/
def iniOf (M : mMt) : Nat := M.2.2.2.2.2.2.2
/-- one step, and how many cells of how many places it makes; none: no such step, a call, a return -/
noncomputable def step1 (j : Nat) (M : mMt) (X : mX) (S : mS) : Option (mS × Nat × Nat) := match S with
  | (pc, ls, st, w) => match mcode j pc with
    | none => none
    | some (_, ins, len, a, b, v, _) => match ins with
      | .getfield _ => match ldf w a b st with
        | some st' => some ((pc + 3, ls, st', w), 0, 0)
        | none => none
      | .putfield _ => match stf w (iniOf M) a b st with
        | some (st', w') => some ((pc + 3, ls, st', w'), 0, 0)
        | none => none
      | .iinc i n => match lkp ls i with
        | some (.int x) => if i < M.2.2.2.1 then some ((pc + 3, sto1 ls i (.int (x + Int32.ofInt n)), st, w), 0, 0) else none
        | _ => none
      | .invokespecial _ => match st with
        | .ref _ :: r => if b = 9 ∧ (r.map fun v => v.category).sum ≤ 8 then some ((pc + 3, ls, r, w), 0, 0) else none
        | _ => none
      | ins => match psh ins ls with
        | some u => some ((pc + len, ls, u :: st, w), 0, 0)
        | none => match brn pc a ins st with
          | some (pc', st') => some ((pc', ls, st', w), 0, 0)
          | none => match lda X w ins st with
            | some st' => some ((pc + 1, ls, st', w), 0, 0)
            | none => match sta w ins st with
              | some (st', w') => some ((pc + 1, ls, st', w'), 0, 0)
              | none => match ldk ins v with
                | some u => some ((pc + len, ls, u :: st, w), 0, 0)
                | none => match nwc w a ins st with
                  | some (st', w', n) => some ((pc + len, ls, st', w'), 1, n)
                  | none => match stk ins st with
                    | some st' => some ((pc + 1, ls, st', w), 0, 0)
                    | none => match st with
                      | u :: r => match stl M.2.2.2.1 ins ls u with
                        | some ls' => some ((pc + len, ls', r, w), 0, 0)
                        | none => none
                      | [] => none
