/-! ===== what the tables must be ===== -/
def tk (t : FieldType) : Nat := match t with
  | .long => 1
  | .object _ => 2
  | .array _ => 2
  | .float => 3
  | .double => 3
  | _ => 0
noncomputable def flds (ci : Nat) : List mFl := match mF[ci]? with
  | some q => q.2
  | none => []
def ftyOf (fl : List mFl) (k : Nat) : FieldType := match fl[k]? with
  | some f => f.2.2.2
  | none => .float
def fTof (C : String) (fl : List mFl) : u_T := fun k => match fl[k]? with
  | some f => (C, f.1, f.2.1, f.2.2.1)
  | none => ("", "", "", false)
def ilen (ins : Instr) : Nat := match ins with
  | .bipush _ => 2
  | .sipush _ => 3
  | .ldc _ => 2
  | .ldc_w _ => 3
  | .ldc2_w _ => 3
  | .iload _ => 2
  | .lload _ => 2
  | .aload _ => 2
  | .istore _ => 2
  | .lstore _ => 2
  | .astore _ => 2
  | .iinc _ _ => 3
  | .ifCond _ _ => 3
  | .if_icmp _ _ => 3
  | .goto _ => 3
  | .ifnull _ => 3
  | .ifnonnull _ => 3
  | .getfield _ => 3
  | .putfield _ => 3
  | .invokevirtual _ => 3
  | .invokespecial _ => 3
  | .invokestatic _ => 3
  | .new _ => 3
  | .newarray _ => 2
  | .anewarray _ => 3
  | .tableswitch _ _ _ _ => 0
  | .lookupswitch _ _ => 0
  | _ => 1
/-- a row of the code's table: its links stand in the tables of links, by numbers alone -/
noncomputable def okL (co : Nat) (e : mIn) : Bool := match e with
  | (pc, ins, _, a, b, v, h) => match ins with
    | .getfield i => decide ((mFLt[h]?).map (fun q => (q.1, q.2.1, q.2.2.1, q.2.2.2.1)) = some (co, i, a, b))
    | .putfield i => decide ((mFLt[h]?).map (fun q => (q.1, q.2.1, q.2.2.1, q.2.2.2.1)) = some (co, i, a, b))
    | .ifCond _ o => decide ((pc : Int) + o = (a : Int))
    | .if_icmp _ o => decide ((pc : Int) + o = (a : Int))
    | .goto o => decide ((pc : Int) + o = (a : Int))
    | .lookupswitch _ ps => (ps.toList.zip (ps.toList.drop 1)).all (fun (x, next) => x.1 < next.1)
    | .ldc i => decide ((mKIt[h]?).map (fun q => (q.1, q.2.1, q.2.2.1)) = some (co, i, v))
    | .ldc_w i => decide ((mKIt[h]?).map (fun q => (q.1, q.2.1, q.2.2.1)) = some (co, i, v))
    | .ldc2_w i => decide ((mKLt[h]?).map (fun q => (q.1, q.2.1, q.2.2.1)) = some (co, i, v))
    | .new i => decide ((mCLt[h]?).map (fun q => (q.1, q.2.1, q.2.2.1)) = some (co, i, a))
    | .anewarray i => decide ((mCAt[h]?).map (fun q => (q.1, q.2.1)) = some (co, i))
    | .invokespecial i => if b = 9 then decide ((mOIt[h]?).map (fun q => (q.1, q.2.1)) = some (co, i)) else decide ((mMLt[h]?).map (fun q => (q.1, q.2.1, q.2.2.1, q.2.2.2.1)) = some (co, i, a, b))
    | .invokevirtual i => decide (¬ b = 9) && decide ((mMLt[h]?).map (fun q => (q.1, q.2.1, q.2.2.1, q.2.2.2.1)) = some (co, i, a, b))
    | .invokestatic i => decide (¬ b = 9) && decide ((mMLt[h]?).map (fun q => (q.1, q.2.1, q.2.2.1, q.2.2.2.1)) = some (co, i, a, b))
    | _ => true
noncomputable def okE (co : Nat) (bytes : ByteArray) (e : mIn) : Bool := match decode bytes e.1 with
  | .ok q => decide (q.1 = e.2.1) && decide (q.2 = e.2.2.1) && (decide (e.2.2.1 = ilen e.2.1) || decide (ilen e.2.1 = 0)) && okL co e
  | .error _ => false
/-- the words that the rows of the tables of links name -/
noncomputable def mcn (co : Nat) : String := mN.getD co ""
noncomputable def mfn (ci k : Nat) : mFl := (((mF[ci]?).map (fun q => q.2)).getD []).getD k ("", "", false, .float)
noncomputable def mmn (a : Nat) : MethodName := ((mt a).map (fun M => M.2.1)).getD ⟨"", "", ""⟩
noncomputable def flC (q : Nat × Nat × Nat × Nat × Nat) : Cond := .fieldLink (mcn q.1) q.2.1 (mcn q.2.2.1) (mfn q.2.2.1 q.2.2.2.1).1 (mfn q.2.2.1 q.2.2.2.1).2.1
noncomputable def mlC (q : Nat × Nat × Nat × Nat × Nat) : Cond := match q.2.2.2.1 with
  | 0 => .methodLink (mcn q.1) q.2.1 (mmn q.2.2.1)
  | _ => .methodLinkNest (mcn q.1) q.2.1 (mmn q.2.2.1) "PointsHome"
noncomputable def oiC (q : Nat × Nat × Nat) : Cond := .methodLink (mcn q.1) q.2.1 objectInit
noncomputable def clC (q : Nat × Nat × Nat × Nat) : Cond := .classLink (mcn q.1) q.2.1 (mcn q.2.2.1)
noncomputable def caC (q : Nat × Nat × Nat) : Cond := .classLink (mcn q.1) q.2.1 "[I"
noncomputable def kiC (q : Nat × Nat × Int × Nat) : Cond := .constant (mcn q.1) q.2.1 (Int32.ofInt q.2.2.1)
noncomputable def klC (q : Nat × Nat × Int × Nat) : Cond := .constantLong (mcn q.1) q.2.1 (Int64.ofInt q.2.2.1)
/-- the words at told places, by one pass: how many are passed over ahead of each -/
def pickW : List Cond → List Nat → List (Option Cond)
  | [], _ => []
  | _ :: _, [] => []
  | a :: l, 0 :: gs => some a :: pickW l gs
  | _ :: l, (g + 1) :: gs => pickW l (g :: gs)
theorem pick_mem : ∀ {l : List Cond} {gs : List Nat} {c : Cond}, some c ∈ pickW l gs → c ∈ l
  | [], _, _, h => by cases h
  | _ :: _, [], _, h => by cases h
  | a :: l, 0 :: gs, c, h => by
    have h : some c ∈ some a :: pickW l gs := h
    rcases List.mem_cons.mp h with e | h
    · cases e
      exact List.mem_cons_self
    · exact List.mem_cons_of_mem _ (pick_mem h)
  | _ :: l, (g + 1) :: gs, c, h => List.mem_cons_of_mem _ (pick_mem (l := l) (gs := g :: gs) h)
/-- every word of a table stands among the words -/
theorem tab_in {α : Type} {T : List α} {g : List Nat} {C : α → Cond} (e : pickW lw_tbl g = T.map (fun q => some (C q))) {n : Nat} {q : α} (hq : T[n]? = some q) : C q ∈ lw_tbl := pick_mem (gs := g) (by rw [e]; exact List.mem_map.mpr ⟨q, List.mem_of_getElem? hq, rfl⟩)
/-- of a class: its fields' types and kinds, their names unlike -/
noncomputable def okK (q : String × List mFl) : Bool := (List.range q.2.length).all (fun k => decide (parseFieldDescriptor (fTof q.1 q.2 k).2.2.1 = some (ftyOf q.2 k)) && decide (tk (ftyOf q.2 k) < 3))
noncomputable def mcC (M : mMt) : Cond := .code M.2.1 M.2.2.1 M.2.2.2.1 M.2.2.2.2.1
noncomputable def miC (M : mMt) : Cond := bif M.2.2.2.2.2.1 then .static M.2.1 else .instanceMethod M.2.1
noncomputable def msC (M : mMt) : Cond := .selects M.2.1.cls M.2.1 M.2.1
/-- not called by choice: static, or <init> -/
noncomputable def mvi (M : mMt) : Bool := M.2.2.2.2.2.1 || decide (¬ M.2.2.2.2.2.2.2 = 99)
theorem all_c {α : Type} {f : α → Bool} {a : α} {l : List α} (h : f a = true) (t : l.all f = true) : (a :: l).all f = true := by
  rw [List.all_cons, h, t]
  rfl
