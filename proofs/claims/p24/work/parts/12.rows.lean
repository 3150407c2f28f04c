/-! ===== the world of numbers in the machine's heap; one step of it is a step of the machine ===== -/
def mcv : List vw_C := mF.map (fun q => (q.1, fTof q.1 q.2, q.2.length))
def rfv (base : Nat) (o : Option Nat) : Value := match o with
  | none => .null
  | some i => .ref (base + i)
def trv (base xa : Nat) (v : Value) : Value := match v with
  | .ref a => .ref (base + a)
  | .retAddr _ => .ref xa
  | .int x => .int x
  | .long x => .long x
  | .float x => .float x
  | .double x => .double x
  | .null => .null
def trl (base xa : Nat) (ls : mL) : mL := ls.map (fun q => (q.1, trv base xa q.2))
def sv (base : Nat) (w : mW) (a k : Nat) (t : Nat) : Value := match t with
  | 1 => .long (w.2.2.1 a k)
  | 2 => rfv base (w.2.2.2 a k)
  | _ => .int (w.2.1 a k)
/-- what is known of an array's sort beyond its kind -/
def arX (U : State) (c : ClassId) (ty : FieldType) : Prop := (ty = .int → U.vm.findClass "[I" = some c) ∧ (ty = .array .int → ∃ (k : Class) (comp : ClassId), U.vm.classes[c]? = some k ∧ k.kind = .array comp (.array .int) ∧ U.vm.findClass "[I" = some comp)
theorem arX.moved {u U : State} {c : ClassId} {ty : FieldType} (hvm : u.vm.Alike U.vm) (h : arX u c ty) : arX U c ty := by
  refine ⟨fun e => by rw [hvm.findClass]; exact h.1 e, fun e => ?_⟩
  obtain ⟨k, comp, h1, h2, h3⟩ := h.2 e
  obtain ⟨k', hk', he⟩ := hvm.2.2 _ _ h1
  exact ⟨k', comp, hk', by rw [he]; exact h2, by rw [hvm.findClass]; exact h3⟩
def cellOK (D : va_G) (base : Nat) (cA : Nat → ClassId) (w : mW) (U : State) (H : Heap) (a : Nat) (e : mE) : Prop := match e with
  | .inr ci => t_OB (base + a) (D.1 ci) (flds ci).length (D.2 ci) H (fun k => sv base w a k (tk (ftyOf (flds ci) k)))
  | .inl q => H[base + a]? = some (arrV (cA a) q.2 (fun j => sv base w a j (tk q.1))) ∧ ArrOfT U (cA a) q.1 ∧ arX U (cA a) q.1
def HR (D : va_G) (base : Nat) (cA : Nat → ClassId) (w : mW) (U : State) (H0 H : Heap) : Prop := H.size = base + w.1.length ∧ (∀ q : Nat, q < base → H[q]? = H0[q]?) ∧ ∀ (a : Nat) (e : mE), w.1[a]? = some e → cellOK D base cA w U H a e
/-! static tables that nobody writes -/
def fABO (j : Nat) : Int32 := ([-1, 0, 1, 0, 0, 4, 4, 5] : List Int32).getD j 0
def fOWN (j : Nat) : Int32 := ([1, 10, 11, 2, 20, 0, 0, 21, 0, 30, 0, 0, 0, 0, 40, 0, 50, 51, 0, 0, 0, 0, 60, 0, 0, 0, 0, 70, 80, 81, 0, 0] : List Int32).getD j 0
def fNAM (j : Nat) : Int64 := ([194797783, 338420152, 189272800, 34616032979, 800221267, 1949528, 923, 237307, 1423850, 2968] : List Int64).getD j 0
/-- a row of ints that nobody writes, of at least L places, whose length as an int is L -/
def va_Y (b L : Nat) (f : Nat → Int32) (U : State) (H : Heap) : Prop := ∃ scr : Cell, H[b]? = some scr ∧ U.isArrayOf scr .int ∧ scr.vm ≠ .unknown ∧ (L ≤ scr.slots.size ∧ scr.slots.size.toInt32 = Int32.ofNat L) ∧ ∀ j : Nat, j < L → scr.slots[j]? = some (.int (f j))
def stX (C n : String) (L : Nat) (f : Nat → Int32) (base : Nat) (U : State) : Prop := ∃ t : Nat, t < base ∧ va_Z C n "[I" (.ref t) (fun q => base ≤ q) U U.heap ∧ va_Y t L f U U.heap
def stJ (C n : String) (L : Nat) (f : Nat → Int64) (base : Nat) (U : State) : Prop := ∃ t : Nat, t < base ∧ va_Z C n "[J" (.ref t) (fun q => base ≤ q) U U.heap ∧ va_T .long t L (fun j => .long (f j)) (fun q => base ≤ q) U U.heap
/-! the String constant -/
def txW : String := "score low stay port if or and not months wounds medals children battles craft age land bride day "
def bytW : List Int32 := [115, 99, 111, 114, 101, 32, 108, 111, 119, 32, 115, 116, 97, 121, 32, 112, 111, 114, 116, 32, 105, 102, 32, 111, 114, 32, 97, 110, 100, 32, 110, 111, 116, 32, 109, 111, 110, 116, 104, 115, 32, 119, 111, 117, 110, 100, 115, 32, 109, 101, 100, 97, 108, 115, 32, 99, 104, 105, 108, 100, 114, 101, 110, 32, 98, 97, 116, 116, 108, 101, 115, 32, 99, 114, 97, 102, 116, 32, 97, 103, 101, 32, 108, 97, 110, 100, 32, 98, 114, 105, 100, 101, 32, 100, 97, 121, 32]
def sL (base aK aV : Nat) (U : State) : Prop := vk_S 1 [97] [bytW] (fun _ => aK) (fun _ => aV) (fun q => base ≤ q) U U.heap ∧ va_Z "java/lang/String" "COMPACT_STRINGS" "Z" (.int 1) (fun q => base ≤ q) U U.heap ∧ va_Zq "jdk/internal/util/Preconditions" "SIOOBE_FORMATTER" "Ljava/util/function/BiFunction;" (fun q => base ≤ q) U U.heap
def stL (base : Nat) (U : State) : Prop := ∃ aK aV : Nat, vk_R "PointsHome$Tape" 87 txW aK U ∧ sL base aK aV U
theorem va_Zq.to {C n d : String} {base : Nat} {s U : State} (hvm : s.vm.Alike U.vm) (hq : ∀ q : Nat, q < base → U.heap[q]? = s.heap[q]?) (h : va_Zq C n d (fun q => base ≤ q) s s.heap) : va_Zq C n d (fun q => base ≤ q) U U.heap := by
  rcases h with h | ⟨t, h⟩
  · exact Or.inl ((h.moved hvm).kept (fun a _ ha => hq a (Nat.lt_of_not_le ha)))
  · exact Or.inr ⟨t, (h.moved hvm).kept (fun a _ ha => hq a (Nat.lt_of_not_le ha))⟩
theorem sL.to {base aK aV : Nat} {s U : State} (hvm : s.vm.Alike U.vm) (hq : ∀ q : Nat, q < base → U.heap[q]? = s.heap[q]?) (h : sL base aK aV s) : sL base aK aV U :=
  ⟨(h.1.moved hvm).kept (fun a _ ha => hq a (Nat.lt_of_not_le ha)), (h.2.1.moved hvm).kept (fun a _ ha => hq a (Nat.lt_of_not_le ha)), h.2.2.to hvm hq⟩
def SX (base : Nat) (U : State) : Prop := stX "PointsHome$Bodies" "ABOVE" 8 fABO base U ∧ stX "PointsHome$Bodies" "OWN_BODY" 32 fOWN base U ∧ stJ "PointsHomeModel" "NAMES" 10 fNAM base U ∧ stL base U
theorem stX.to {C n : String} {L : Nat} {f : Nat → Int32} {base : Nat} {s U : State} (hvm : s.vm.Alike U.vm) (hq : ∀ q : Nat, q < base → U.heap[q]? = s.heap[q]?) (h : stX C n L f base s) : stX C n L f base U := by
  obtain ⟨t, h1, h2, h3⟩ := h
  refine ⟨t, h1, (h2.moved hvm).kept (fun a _ ha => hq a (Nat.lt_of_not_le ha)), ?_⟩
  obtain ⟨scr, g1, g2, g3⟩ := h3
  exact ⟨scr, by rw [hq t h1]; exact g1, State.isArrayOf_alike hvm g2, g3⟩
theorem stJ.to {C n : String} {L : Nat} {f : Nat → Int64} {base : Nat} {s U : State} (hvm : s.vm.Alike U.vm) (hq : ∀ q : Nat, q < base → U.heap[q]? = s.heap[q]?) (h : stJ C n L f base s) : stJ C n L f base U := by
  obtain ⟨t, h1, h2, h3⟩ := h
  exact ⟨t, h1, (h2.moved hvm).kept (fun a _ ha => hq a (Nat.lt_of_not_le ha)), (h3.moved hvm).kept (fun a _ ha => hq a (Nat.lt_of_not_le ha))⟩
theorem SX.same {base : Nat} {s U : State} (hv : U.vm = s.vm) (hq : ∀ q : Nat, q < base → U.heap[q]? = s.heap[q]?) (h : SX base s) : SX base U := by
  have hvm : s.vm.Alike U.vm := by rw [hv]; exact Vm.Alike.refl _
  obtain ⟨aK, aV, h1, h2⟩ := h.2.2.2
  exact ⟨h.1.to hvm hq, h.2.1.to hvm hq, h.2.2.1.to hvm hq, aK, aV, h1.same hv, h2.to hvm hq⟩
theorem SX.warm {base : Nat} {s U : State} (hW : s.WarmedH U.vm) (hq : ∀ q : Nat, q < base → U.heap[q]? = s.heap[q]?) (h : SX base s) : SX base U := by
  obtain ⟨aK, aV, h1, h2⟩ := h.2.2.2
  exact ⟨h.1.to hW.alike hq, h.2.1.to hW.alike hq, h.2.2.1.to hW.alike hq, aK, aV, h1.warm hW, h2.to hW.alike hq⟩
/-- classes and static tables as they are known -/
def KS (base : Nat) (D : va_G) (U : State) : Prop := va_K D mcv [] U ∧ SX base U
def CT (M : mMt) (X : mX) (D : va_G) (base xa : Nat) (p : Program) (s : State) (m : MethodId) (args : Array Value) (meth : Method) (c : Code) : Prop :=
  p.tables.exec = Jvm.exec ∧ c.code = M.2.2.1 ∧ meth.sig.returnType = M.2.2.2.2.1 ∧ c.maxLocals = M.2.2.2.1 ∧ s.vm.findClass M.2.1.cls = some m.cls ∧ (∀ w ∈ lw_tbk, w.before args s = true) ∧ meth.locks = false ∧ (M.2.2.2.2.2.2.2 < 13 → meth.name = M.2.1.name) ∧ KS base D s ∧ ∀ (n : Nat) (f : Nat → Int32), X = some (n, f) → xa < base ∧ va_Y xa n f s s.heap
def retOK (M : mMt) (r : Option Value) (pc : Nat) : Prop := match r with
  | none => M.2.2.2.2.1 = none ∧ decode M.2.2.1 pc = .ok (.return_, 1)
  | some (.int x) => (∃ ty : FieldType, M.2.2.2.2.1 = some ty ∧ narrow ty (.int x) = .int x) ∧ decode M.2.2.1 pc = .ok (.ireturn, 1)
  | some (.long _) => M.2.2.2.2.1 = some .long ∧ decode M.2.2.1 pc = .ok (.lreturn, 1)
  | some (.ref _) => (∃ t : FieldType, M.2.2.2.2.1 = some (.array t)) ∧ decode M.2.2.1 pc = .ok (.areturn, 1)
  | _ => False
/-- from here on method M comes to its end, with an answer and a world of Q, by at most mc new cells of ms places, d frames -/
def XW (j : Nat) (M : mMt) (X : mX) (d mc ms : Nat) (Q : Option Value → mW → Prop) (S : mS) : Prop :=
  ∀ (D : va_G) (base xa : Nat) (p : Program) (l : Launch) (e : Env) (R : Room) (s : State) (m : MethodId) (args : Array Value) (below : List Frame) (meth : Method) (c : Code) (Z : State → Prop) (H : Heap) (locs : List Loc) (cells slots : Nat) (ls : Array Slot) (cA : Nat → ClassId),
    CT M X D base xa p s m args meth c → d + 1 ≤ R.frames → 60 * (d + 1) ≤ R.locals → cells + mc ≤ R.cells → slots + ms ≤ R.slots →
    HR D base cA S.2.2.2 s s.heap H → (∀ q ∈ locs, base ≤ q.base) → lv_has ls M.2.2.2.1 (trl base xa S.2.1) →
    (∀ (r : Option Value) (w' : mW) (H' : Heap) (locs' : List Loc) (ls' : Array Slot) (cA' : Nat → ClassId) (cells' slots' pc' : Nat), Q r w' → HR D base cA' w' s s.heap H' → (∀ q ∈ locs', base ≤ q.base) → cells' ≤ cells + mc → slots' ≤ slots + ms → retOK M r pc' →
      W p l e R s m args below meth c H' locs' cells' slots' Z (F0 m pc' ls' (r.toList.map (trv base xa)))) →
    W p l e R s m args below meth c H locs cells slots Z (F0 m S.1 ls (S.2.2.1.map (trv base xa)))
theorem trv_cat (base xa : Nat) (v : Value) : (trv base xa v).category = v.category := by cases v <;> rfl
theorem trl_sto1 (base xa : Nat) (ls : mL) (i : Nat) (v : Value) : trl base xa (sto1 ls i v) = (i, trv base xa v) :: (trl base xa ls).filter (fun q => !(q.1 == i) && !(q.1 + 1 == i && q.2.category == 2)) := by
  unfold trl sto1
  rw [List.map_cons, List.filter_map]
  congr 2
  apply List.filter_congr
  intro q _
  simp [Function.comp, trv_cat]
theorem trl_sto2 (base xa : Nat) (ls : mL) (i : Nat) (v : Value) : trl base xa (sto2 ls i v) = (i, trv base xa v) :: (trl base xa ls).filter (fun q => !(q.1 == i) && (!(q.1 == i + 1) && !(q.1 + 1 == i && q.2.category == 2))) := by
  unfold trl sto2
  rw [List.map_cons, List.filter_map]
  congr 2
  apply List.filter_congr
  intro q _
  simp [Function.comp, trv_cat]
theorem lkp_mem {ls : mL} {i : Nat} {v : Value} (h : lkp ls i = some v) : (i, v) ∈ ls := by
  unfold lkp at h
  obtain ⟨q, hq, rfl⟩ := Option.map_eq_some_iff.mp h
  have h1 := List.find?_some hq
  have h2 := List.mem_of_find?_eq_some hq
  have : q.1 = i := by simpa using h1
  subst this
  exact h2
theorem lkp_at {base xa nL : Nat} {ls : mL} {lsA : Array Slot} (hl : lv_has lsA nL (trl base xa ls)) {i : Nat} {v : Value} (h : lkp ls i = some v) : lsA[i]? = some (.val (trv base xa v)) :=
  hl.2.2 (i, trv base xa v) (List.mem_map.mpr ⟨(i, v), lkp_mem h, rfl⟩)
section RW1
variable {p : Program} {l : Launch} {e : Env} {R : Room} {s : State} {m : MethodId} {args : Array Value} {below : List Frame} {meth : Method} {c : Code} {H : Heap} {locs : List Loc} {cells slots : Nat} {Z : State → Prop}
variable {cc : ByteArray} {pc : Nat} {lsA : Array Slot} {rest : List Value} {base xa nL : Nat} {ls : mL}
theorem rw_psh (hx : p.tables.exec = Jvm.exec) (hb : c.code = cc) {ins : Instr} {len : Nat} {u : Value} (hd : decode cc pc = .ok (ins, len)) (hn : len = ilen ins ∨ ilen ins = 0) (hl : lv_has lsA nL (trl base xa ls)) (h : psh ins ls = some u)
    (k : W p l e R s m args below meth c H locs cells slots Z (F0 m (pc + len) lsA (trv base xa u :: rest))) : W p l e R s m args below meth c H locs cells slots Z (F0 m pc lsA rest) := by
  unfold psh at h
  split at h
  · obtain rfl : len = 1 := by rcases hn with hn | hn <;> simp [ilen] at hn <;> exact hn
    cases h
    exact lv_iconst hx hb hd rfl k
  · obtain rfl : len = 2 := by rcases hn with hn | hn <;> simp [ilen] at hn <;> exact hn
    cases h
    exact lv_bipush hx hb hd rfl k
  · obtain rfl : len = 3 := by rcases hn with hn | hn <;> simp [ilen] at hn <;> exact hn
    cases h
    exact lv_sipush hx hb hd rfl k
  · obtain rfl : len = 1 := by rcases hn with hn | hn <;> simp [ilen] at hn <;> exact hn
    cases h
    exact lv_lconst hx hb hd rfl k
  · obtain rfl : len = 1 := by rcases hn with hn | hn <;> simp [ilen] at hn <;> exact hn
    split at h
    · next hv => cases h; exact lv_iload_n hx hb hd rfl (lkp_at hl hv) k
    · cases h
  · obtain rfl : len = 2 := by rcases hn with hn | hn <;> simp [ilen] at hn <;> exact hn
    split at h
    · next hv => cases h; exact lv_iload hx hb hd (lkp_at hl hv) k
    · cases h
  · obtain rfl : len = 1 := by rcases hn with hn | hn <;> simp [ilen] at hn <;> exact hn
    split at h
    · next hv => cases h; exact lv_lload_n hx hb hd rfl (lkp_at hl hv) k
    · cases h
  · obtain rfl : len = 2 := by rcases hn with hn | hn <;> simp [ilen] at hn <;> exact hn
    split at h
    · next hv => cases h; exact lv_lload hx hb hd (lkp_at hl hv) k
    · cases h
  · obtain rfl : len = 1 := by rcases hn with hn | hn <;> simp [ilen] at hn <;> exact hn
    split at h
    · next hv => cases h; exact lv_aload_n hx hb hd rfl (lkp_at hl hv) k
    · next hv => cases h; exact lv_aload_n hx hb hd rfl (lkp_at hl hv) k
    · cases h
  · obtain rfl : len = 2 := by rcases hn with hn | hn <;> simp [ilen] at hn <;> exact hn
    split at h
    · next hv => cases h; exact lv_aload hx hb hd (lkp_at hl hv) k
    · next hv => cases h; exact lv_aload hx hb hd (lkp_at hl hv) k
    · cases h
  · cases h
theorem rw_stl (hx : p.tables.exec = Jvm.exec) (hb : c.code = cc) {ins : Instr} {len : Nat} {u : Value} {ls' : mL} (hd : decode cc pc = .ok (ins, len)) (hn : len = ilen ins ∨ ilen ins = 0) (hl : lv_has lsA nL (trl base xa ls)) (h : stl nL ins ls u = some ls')
    (k : ∀ lsB : Array Slot, lv_has lsB nL (trl base xa ls') → W p l e R s m args below meth c H locs cells slots Z (F0 m (pc + len) lsB rest)) : W p l e R s m args below meth c H locs cells slots Z (F0 m pc lsA (trv base xa u :: rest)) := by
  unfold stl at h
  split at h
  · obtain rfl : len = 1 := by rcases hn with hn | hn <;> simp [ilen] at hn <;> exact hn
    split at h
    · next hi => cases h; exact lv_istore_n hx hb hd rfl hl hi rfl (fun lsB hB => k lsB (by rw [trl_sto1]; exact hB))
    · cases h
  · obtain rfl : len = 2 := by rcases hn with hn | hn <;> simp [ilen] at hn <;> exact hn
    split at h
    · next hi => cases h; exact lv_istore hx hb hd hl hi rfl (fun lsB hB => k lsB (by rw [trl_sto1]; exact hB))
    · cases h
  · obtain rfl : len = 1 := by rcases hn with hn | hn <;> simp [ilen] at hn <;> exact hn
    split at h
    · next hi => cases h; exact lv_lstore_n hx hb hd rfl hl hi rfl (fun lsB hB => k lsB (by rw [trl_sto2]; exact hB))
    · cases h
  · obtain rfl : len = 2 := by rcases hn with hn | hn <;> simp [ilen] at hn <;> exact hn
    split at h
    · next hi => cases h; exact lv_lstore hx hb hd hl hi rfl (fun lsB hB => k lsB (by rw [trl_sto2]; exact hB))
    · cases h
  · obtain rfl : len = 1 := by rcases hn with hn | hn <;> simp [ilen] at hn <;> exact hn
    split at h
    · next hi => cases h; exact lv_astore_n hx hb hd rfl hl hi rfl (fun lsB hB => k lsB (by rw [trl_sto1]; exact hB))
    · cases h
  · obtain rfl : len = 2 := by rcases hn with hn | hn <;> simp [ilen] at hn <;> exact hn
    split at h
    · next hi => cases h; exact lv_astore hx hb hd hl hi rfl (fun lsB hB => k lsB (by rw [trl_sto1]; exact hB))
    · cases h
  · cases h
theorem rw_ibin (hx : p.tables.exec = Jvm.exec) (hb : c.code = cc) {ins : Instr} {len : Nat} {x y z : Int32} (hd : decode cc pc = .ok (ins, len)) (hn : len = ilen ins ∨ ilen ins = 0) (h : ibin ins x y = some z)
    (k : W p l e R s m args below meth c H locs cells slots Z (F0 m (pc + 1) lsA (.int z :: rest))) : W p l e R s m args below meth c H locs cells slots Z (F0 m pc lsA (.int y :: .int x :: rest)) := by
  have hlen : ilen ins = 1 → len = 1 := fun q => by rcases hn with hn | hn <;> omega
  unfold ibin at h
  split at h
  · obtain rfl := hlen rfl; cases h; exact lv_iadd hx hb hd k
  · obtain rfl := hlen rfl; cases h; exact lv_isub hx hb hd k
  · obtain rfl := hlen rfl; cases h; exact lv_imul hx hb hd k
  · obtain rfl := hlen rfl; cases h; exact lv_iand hx hb hd k
  · obtain rfl := hlen rfl; cases h; exact lv_ior hx hb hd k
  · obtain rfl := hlen rfl; cases h; exact lv_ixor hx hb hd k
  · obtain rfl := hlen rfl; cases h; exact lv_ishl hx hb hd k
  · obtain rfl := hlen rfl; cases h; exact lv_ishr hx hb hd k
  · obtain rfl := hlen rfl
    split at h
    · cases h
    · next hy => cases h; exact lv_idiv hx hb hd hy k
  · obtain rfl := hlen rfl
    split at h
    · cases h
    · next hy => cases h; exact lv_irem hx hb hd hy k
  · cases h
theorem rw_iun (hx : p.tables.exec = Jvm.exec) (hb : c.code = cc) {ins : Instr} {len : Nat} {x z : Int32} (hd : decode cc pc = .ok (ins, len)) (hn : len = ilen ins ∨ ilen ins = 0) (h : iun ins x = some z)
    (k : W p l e R s m args below meth c H locs cells slots Z (F0 m (pc + 1) lsA (.int z :: rest))) : W p l e R s m args below meth c H locs cells slots Z (F0 m pc lsA (.int x :: rest)) := by
  have hlen : ilen ins = 1 → len = 1 := fun q => by rcases hn with hn | hn <;> omega
  unfold iun at h
  split at h
  · obtain rfl := hlen rfl; cases h; exact lv_ineg hx hb hd k
  · obtain rfl := hlen rfl; cases h; exact lv_i2b hx hb hd rfl k
  · obtain rfl := hlen rfl; cases h; exact lv_i2s hx hb hd rfl k
  · cases h
theorem rw_lbin (hx : p.tables.exec = Jvm.exec) (hb : c.code = cc) {ins : Instr} {len : Nat} {x y z : Int64} (hd : decode cc pc = .ok (ins, len)) (hn : len = ilen ins ∨ ilen ins = 0) (h : lbin ins x y = some z)
    (k : W p l e R s m args below meth c H locs cells slots Z (F0 m (pc + 1) lsA (.long z :: rest))) : W p l e R s m args below meth c H locs cells slots Z (F0 m pc lsA (.long y :: .long x :: rest)) := by
  have hlen : ilen ins = 1 → len = 1 := fun q => by rcases hn with hn | hn <;> omega
  unfold lbin at h
  split at h
  · obtain rfl := hlen rfl; cases h; exact lv_ladd hx hb hd k
  · obtain rfl := hlen rfl; cases h; exact lv_lsub hx hb hd k
  · obtain rfl := hlen rfl; cases h; exact lv_lmul hx hb hd k
  · obtain rfl := hlen rfl; cases h; exact lv_land hx hb hd k
  · obtain rfl := hlen rfl; cases h; exact lv_lor hx hb hd k
  · obtain rfl := hlen rfl; cases h; exact lv_lxor hx hb hd k
  · cases h
theorem rw_lsh (hx : p.tables.exec = Jvm.exec) (hb : c.code = cc) {ins : Instr} {len : Nat} {x z : Int64} {y : Int32} (hd : decode cc pc = .ok (ins, len)) (hn : len = ilen ins ∨ ilen ins = 0) (h : lsh ins x y = some z)
    (k : W p l e R s m args below meth c H locs cells slots Z (F0 m (pc + 1) lsA (.long z :: rest))) : W p l e R s m args below meth c H locs cells slots Z (F0 m pc lsA (.int y :: .long x :: rest)) := by
  have hlen : ilen ins = 1 → len = 1 := fun q => by rcases hn with hn | hn <;> omega
  unfold lsh at h
  split at h
  · obtain rfl := hlen rfl; cases h; exact lv_lshl hx hb hd rfl k
  · obtain rfl := hlen rfl; cases h; exact lv_lshr hx hb hd rfl k
  · cases h
theorem rw_stk (hx : p.tables.exec = Jvm.exec) (hb : c.code = cc) {ins : Instr} {len : Nat} {st st' : List Value} (hd : decode cc pc = .ok (ins, len)) (hn : len = ilen ins ∨ ilen ins = 0) (h : stk ins st = some st')
    (k : W p l e R s m args below meth c H locs cells slots Z (F0 m (pc + 1) lsA (st'.map (trv base xa)))) : W p l e R s m args below meth c H locs cells slots Z (F0 m pc lsA (st.map (trv base xa))) := by
  have hlen : ilen ins = 1 → len = 1 := fun q => by rcases hn with hn | hn <;> omega
  unfold stk at h
  split at h
  · obtain rfl := hlen rfl
    split at h
    · next hc => cases h; exact lv_dup hx hb hd (by rw [trv_cat]; exact hc) k
    · cases h
  · obtain rfl := hlen rfl
    split at h
    · next hc => cases h; exact lv_pop hx hb hd (by rw [trv_cat]; exact hc) k
    · cases h
  · obtain rfl := hlen rfl; cases h; exact lv_pop2_2 hx hb hd rfl k
  · obtain rfl := hlen rfl
    split at h
    · next hc => cases h; exact lv_dup_x1 hx hb hd (by rw [trv_cat]; exact hc.1) (by rw [trv_cat]; exact hc.2) k
    · cases h
  · obtain rfl := hlen rfl
    split at h
    · next hc => cases h; exact lv_dup2_11 hx hb hd (by rw [trv_cat]; exact hc.1) (by rw [trv_cat]; exact hc.2) k
    · cases h
  · obtain rfl := hlen rfl; cases h; exact lv_i2l hx hb hd rfl k
  · obtain rfl := hlen rfl; cases h; exact lv_l2i hx hb hd rfl k
  · obtain rfl := hlen rfl; cases h; exact W.lcmp hx hb hd k
  · split at h
    · next hz => cases h; exact rw_ibin hx hb hd hn hz k
    · split at h
      · next hz => cases h; exact rw_iun hx hb hd hn hz k
      · cases h
  · split at h
    · next hz => cases h; exact rw_lbin hx hb hd hn hz k
    · cases h
  · split at h
    · next hz => cases h; exact rw_lsh hx hb hd hn hz k
    · split at h
      · next hz => cases h; exact rw_iun hx hb hd hn hz k
      · cases h
  · split at h
    · next hz => cases h; exact rw_iun hx hb hd hn hz k
    · cases h
  · cases h
theorem tgt_eq {pc : Nat} {o : Int} {t : Nat} (h : tgt pc o = some t) : (pc : Int) + o = (t : Int) := by
  unfold tgt at h
  split at h
  · next h0 => cases h; exact (Int.toNat_of_nonneg h0).symm
  · cases h
theorem rw_icmp (hx : p.tables.exec = Jvm.exec) (hb : c.code = cc) {cd : Jvm.ClassFile.Cond} {o : Int} {a : Nat} {x y : Int32} (hd : decode cc pc = .ok (.if_icmp cd o, 3)) (ha : (pc : Int) + o = (a : Int))
    (k : W p l e R s m args below meth c H locs cells slots Z (F0 m (bif bcmp cd x y then a else pc + 3) lsA rest)) : W p l e R s m args below meth c H locs cells slots Z (F0 m pc lsA (.int y :: .int x :: rest)) := by
  cases cd
  · exact lv_icmp_eq hx hb hd ha (fun q => by simpa [bcmp, q] using k) (fun q => by simpa [bcmp, q] using k)
  · exact lv_icmp_ne hx hb hd ha (fun q => by simpa [bcmp, q] using k) (fun q => by simpa [bcmp, q] using k)
  · exact lv_icmp_lt hx hb hd ha (fun q => by simpa [bcmp, q] using k) (fun q => by simpa only [bcmp, q, decide_false, cond_false] using k)
  · exact lv_icmp_ge hx hb hd ha (fun q => by simpa [bcmp, q] using k) (fun q => by simpa only [bcmp, q, decide_false, cond_false] using k)
  · exact lv_icmp_gt hx hb hd ha (fun q => by simpa [bcmp, q] using k) (fun q => by simpa only [bcmp, q, decide_false, cond_false] using k)
  · exact lv_icmp_le hx hb hd ha (fun q => by simpa [bcmp, q] using k) (fun q => by simpa only [bcmp, q, decide_false, cond_false] using k)
theorem rw_ifc (hx : p.tables.exec = Jvm.exec) (hb : c.code = cc) {cd : Jvm.ClassFile.Cond} {o : Int} {a : Nat} {x : Int32} (hd : decode cc pc = .ok (.ifCond cd o, 3)) (ha : (pc : Int) + o = (a : Int))
    (k : W p l e R s m args below meth c H locs cells slots Z (F0 m (bif bcmp cd x 0 then a else pc + 3) lsA rest)) : W p l e R s m args below meth c H locs cells slots Z (F0 m pc lsA (.int x :: rest)) := by
  cases cd
  · exact lv_if_eq hx hb hd ha (fun q => by simpa [bcmp, q] using k) (fun q => by simpa [bcmp, q] using k)
  · exact lv_if_ne hx hb hd ha (fun q => by simpa [bcmp, q] using k) (fun q => by simpa [bcmp, q] using k)
  · exact lv_if_lt hx hb hd ha (fun q => by simpa [bcmp, q] using k) (fun q => by simpa only [bcmp, q, decide_false, cond_false] using k)
  · exact lv_if_ge hx hb hd ha (fun q => by simpa [bcmp, q] using k) (fun q => by simpa only [bcmp, q, decide_false, cond_false] using k)
  · exact lv_if_gt hx hb hd ha (fun q => by simpa [bcmp, q] using k) (fun q => by simpa only [bcmp, q, decide_false, cond_false] using k)
  · exact lv_if_le hx hb hd ha (fun q => by simpa [bcmp, q] using k) (fun q => by simpa only [bcmp, q, decide_false, cond_false] using k)
end RW1
section RW2
variable {p : Program} {l : Launch} {e : Env} {R : Room} {s : State} {m : MethodId} {args : Array Value} {below : List Frame} {meth : Method} {c : Code} {H : Heap} {locs : List Loc} {cells slots : Nat} {Z : State → Prop}
variable {cc : ByteArray} {pc : Nat} {lsA : Array Slot} {rest : List Value} {base xa nL : Nat} {ls : mL}
theorem rw_brn (hx : p.tables.exec = Jvm.exec) (hb : c.code = cc) {co : Nat} {ins : Instr} {len a b h pc' : Nat} {v : Int} {st st' : List Value} (hd : decode cc pc = .ok (ins, len)) (hn : len = ilen ins ∨ ilen ins = 0) (ho : okL co (pc, ins, len, a, b, v, h) = true) (hs : brn pc a ins st = some (pc', st'))
    (k : W p l e R s m args below meth c H locs cells slots Z (F0 m pc' lsA (st'.map (trv base xa)))) : W p l e R s m args below meth c H locs cells slots Z (F0 m pc lsA (st.map (trv base xa))) := by
  have hlen : ilen ins = 3 → len = 3 := fun q => by rcases hn with hn | hn <;> omega
  unfold brn at hs
  split at hs
  · obtain rfl := hlen rfl; cases hs; exact lv_goto hx hb hd (of_decide_eq_true ho) k
  · obtain rfl := hlen rfl; cases hs; exact rw_ifc hx hb hd (of_decide_eq_true ho) k
  · obtain rfl := hlen rfl; cases hs; exact rw_icmp hx hb hd (of_decide_eq_true ho) k
  · split at hs
    · next hc =>
      obtain ⟨t, ht, he⟩ := Option.map_eq_some_iff.mp hs
      cases he
      exact lv_tableOut hx hb hd hc (tgt_eq ht) k
    · next hc =>
      obtain ⟨o, h1, h2⟩ := Option.bind_eq_some_iff.mp hs
      obtain ⟨t, ht, he⟩ := Option.map_eq_some_iff.mp h2
      cases he
      exact lv_tableIn hx hb hd (fun q => hc (Or.inl q)) (fun q => hc (Or.inr q)) h1 (tgt_eq ht) k
  · obtain ⟨t, ht, he⟩ := Option.map_eq_some_iff.mp hs
    cases he
    exact lv_lookup hx hb hd ho rfl (tgt_eq ht) k
  · cases hs
theorem kiC_in {co i h : Nat} {v : Int} (ho : (mKIt[h]?).map (fun q => (q.1, q.2.1, q.2.2.1)) = some (co, i, v)) : Cond.constant (mcn co) i (Int32.ofInt v) ∈ lw_tbk := by
  obtain ⟨q, hq, he⟩ := Option.map_eq_some_iff.mp ho
  have h1 := tab_in ki_ok hq
  unfold kiC at h1
  simp only [Prod.mk.injEq] at he
  obtain ⟨rfl, rfl, rfl⟩ := he
  exact tbk_of h1 rfl
theorem klC_in {co i h : Nat} {v : Int} (ho : (mKLt[h]?).map (fun q => (q.1, q.2.1, q.2.2.1)) = some (co, i, v)) : Cond.constantLong (mcn co) i (Int64.ofInt v) ∈ lw_tbk := by
  obtain ⟨q, hq, he⟩ := Option.map_eq_some_iff.mp ho
  have h1 := tab_in kl_ok hq
  unfold klC at h1
  simp only [Prod.mk.injEq] at he
  obtain ⟨rfl, rfl, rfl⟩ := he
  exact tbk_of h1 rfl
theorem flC_in {co i a b h : Nat} (ho : (mFLt[h]?).map (fun q => (q.1, q.2.1, q.2.2.1, q.2.2.2.1)) = some (co, i, a, b)) : Cond.fieldLink (mcn co) i (mcn a) (mfn a b).1 (mfn a b).2.1 ∈ lw_tbk := by
  obtain ⟨q, hq, he⟩ := Option.map_eq_some_iff.mp ho
  have h1 := tab_in fl_ok hq
  unfold flC at h1
  simp only [Prod.mk.injEq] at he
  obtain ⟨rfl, rfl, rfl, rfl⟩ := he
  exact tbk_of h1 rfl
theorem clC_in {co i a h : Nat} (ho : (mCLt[h]?).map (fun q => (q.1, q.2.1, q.2.2.1)) = some (co, i, a)) : Cond.classLink (mcn co) i (mcn a) ∈ lw_tbk := by
  obtain ⟨q, hq, he⟩ := Option.map_eq_some_iff.mp ho
  have h1 := tab_in cl_ok hq
  unfold clC at h1
  simp only [Prod.mk.injEq] at he
  obtain ⟨rfl, rfl, rfl⟩ := he
  exact tbk_of h1 rfl
theorem caC_in {co i h : Nat} (ho : (mCAt[h]?).map (fun q => (q.1, q.2.1)) = some (co, i)) : Cond.classLink (mcn co) i "[I" ∈ lw_tbk := by
  obtain ⟨q, hq, he⟩ := Option.map_eq_some_iff.mp ho
  have h1 := tab_in ca_ok hq
  unfold caC at h1
  simp only [Prod.mk.injEq] at he
  obtain ⟨rfl, rfl⟩ := he
  exact tbk_of h1 rfl
theorem oiC_in {co i h : Nat} (ho : (mOIt[h]?).map (fun q => (q.1, q.2.1)) = some (co, i)) : Cond.methodLink (mcn co) i objectInit ∈ lw_tbk := by
  obtain ⟨q, hq, he⟩ := Option.map_eq_some_iff.mp ho
  have h1 := tab_in oi_ok hq
  unfold oiC at h1
  simp only [Prod.mk.injEq] at he
  obtain ⟨rfl, rfl⟩ := he
  exact tbk_of h1 rfl
theorem mlC_in0 {co i a h : Nat} (ho : (mMLt[h]?).map (fun q => (q.1, q.2.1, q.2.2.1, q.2.2.2.1)) = some (co, i, a, 0)) : Cond.methodLink (mcn co) i (mmn a) ∈ lw_tbk := by
  obtain ⟨q, hq, he⟩ := Option.map_eq_some_iff.mp ho
  have h1 := tab_in ml_ok hq
  unfold mlC at h1
  simp only [Prod.mk.injEq] at he
  obtain ⟨rfl, rfl, rfl, h4⟩ := he
  rw [h4] at h1
  exact tbk_of h1 rfl
theorem mlC_in1 {co i a b h : Nat} (ho : (mMLt[h]?).map (fun q => (q.1, q.2.1, q.2.2.1, q.2.2.2.1)) = some (co, i, a, b)) (hb : b ≠ 0) : Cond.methodLinkNest (mcn co) i (mmn a) "PointsHome" ∈ lw_tbk := by
  obtain ⟨q, hq, he⟩ := Option.map_eq_some_iff.mp ho
  have h1 := tab_in ml_ok hq
  unfold mlC at h1
  simp only [Prod.mk.injEq] at he
  obtain ⟨rfl, rfl, rfl, h4⟩ := he
  rw [h4] at h1
  cases b with
  | zero => exact absurd rfl hb
  | succ b => exact tbk_of h1 rfl
theorem rw_ldk (hx : p.tables.exec = Jvm.exec) (hb : c.code = cc) {co : Nat} (hown : s.vm.findClass (mcn co) = some m.cls) (hts : ∀ w ∈ lw_tbk, w.before args s = true) {ins : Instr} {len a b h : Nat} {v : Int} {u : Value} (hd : decode cc pc = .ok (ins, len)) (hn : len = ilen ins ∨ ilen ins = 0) (ho : okL co (pc, ins, len, a, b, v, h) = true) (hs : ldk ins v = some u)
    (k : W p l e R s m args below meth c H locs cells slots Z (F0 m (pc + len) lsA (trv base xa u :: rest))) : W p l e R s m args below meth c H locs cells slots Z (F0 m pc lsA rest) := by
  unfold ldk at hs
  split at hs
  · obtain rfl : len = 2 := by rcases hn with hn | hn <;> simp [ilen] at hn <;> exact hn
    cases hs
    exact lv_ldc hx hb hown (hts _ (kiC_in (of_decide_eq_true ho))) hd k
  · obtain rfl : len = 3 := by rcases hn with hn | hn <;> simp [ilen] at hn <;> exact hn
    cases hs
    exact lv_ldcw hx hb hown (hts _ (kiC_in (of_decide_eq_true ho))) hd k
  · obtain rfl : len = 3 := by rcases hn with hn | hn <;> simp [ilen] at hn <;> exact hn
    cases hs
    exact lv_ldc2 hx hb hown (hts _ (klC_in (of_decide_eq_true ho))) hd k
  · cases hs
/-- one of the table's classes, among the kit's -/
theorem mcv_at {a : Nat} {q : String × List mFl} (h : mF[a]? = some q) : mcv[a]? = some (q.1, fTof q.1 q.2, q.2.length) := by
  unfold mcv
  rw [List.getElem?_map, h]
  rfl
theorem flds_at {a : Nat} {q : String × List mFl} (h : mF[a]? = some q) : flds a = q.2 := by
  unfold flds
  rw [h]
theorem fTof_at {C : String} {fl : List mFl} {k : Nat} {f : mFl} (h : fl[k]? = some f) : fTof C fl k = (C, f.1, f.2.1, f.2.2.1) := by
  unfold fTof
  rw [h]
theorem ftyOf_at {fl : List mFl} {k : Nat} {f : mFl} (h : fl[k]? = some f) : ftyOf fl k = f.2.2.2 := by
  unfold ftyOf
  rw [h]
theorem mcn_at {a : Nat} {q : String × List mFl} (h : mF[a]? = some q) : mcn a = q.1 := by
  have h1 : (mF.map (fun q => q.1))[a]? = some q.1 := by rw [List.getElem?_map, h]; rfl
  have h2 : mF.map (fun q => q.1) = mN.take 13 := rfl
  rw [h2, List.getElem?_take] at h1
  split at h1
  · unfold mcn
    rw [List.getD_eq_getElem?_getD, h1]
    rfl
  · cases h1
theorem mfn_at {a b : Nat} (h : b < (flds a).length) : ∃ (q : String × List mFl) (f : mFl), mF[a]? = some q ∧ q.2[b]? = some f ∧ mcn a = q.1 ∧ mfn a b = f := by
  unfold flds at h
  split at h
  · next q hq =>
    refine ⟨q, q.2[b], hq, List.getElem?_eq_getElem h, mcn_at hq, ?_⟩
    unfold mfn
    rw [hq]
    simp [h]
  · simp at h
theorem sv_tr {w : mW} {q k t : Nat} {v : Value} (h : ldv w q k t = some v) : sv base w q k t = trv base xa v := by
  unfold ldv at h
  split at h
  · cases h; rfl
  · cases h; rfl
  · cases h
    show rfv base (w.2.2.2 q k) = trv base xa (rfO (w.2.2.2 q k))
    cases w.2.2.2 q k <;> rfl
  · cases h
end RW2
/-! the heap relation moves -/
theorem HR_upd {D : va_G} {base : Nat} {cA : Nat → ClassId} {w w' : mW} {U : State} {H0 H H' : Heap} {q : Nat} (h : HR D base cA w U H0 H) (hsh : w'.1 = w.1) (hsz : H'.size = H.size) (ho : ∀ z : Nat, z ≠ base + q → H'[z]? = H[z]?) (hsv : ∀ a : Nat, a ≠ q → ∀ k t : Nat, sv base w' a k t = sv base w a k t)
    (hq : ∀ e : mE, w.1[q]? = some e → cellOK D base cA w' U H' q e) : HR D base cA w' U H0 H' := by
  obtain ⟨h1, h2, h3⟩ := h
  refine ⟨by rw [hsz, hsh]; exact h1, fun z hz => by rw [ho z (by omega)]; exact h2 z hz, fun a e he => ?_⟩
  rw [hsh] at he
  by_cases haq : a = q
  · subst haq
    exact hq e he
  · have hc := h3 a e he
    have hh : H'[base + a]? = H[base + a]? := ho _ (by omega)
    unfold cellOK at hc ⊢
    cases e with
    | inr ci =>
      dsimp only at hc ⊢
      exact (hc.kept hh).to (fun k _ => (hsv a haq k _).symm)
    | inl x =>
      dsimp only at hc ⊢
      refine ⟨by rw [hh, hc.1]; congr 2; funext j; exact (hsv a haq j _).symm, hc.2⟩
theorem HR_new {D : va_G} {base : Nat} {cA : Nat → ClassId} {sh : List mE} {I : Nat → Nat → Int32} {L : Nat → Nat → Int64} {R : Nat → Nat → Option Nat} {U : State} {H0 H H' : Heap} {c0 : ClassId} {e0 : mE} (h : HR D base cA (sh, I, L, R) U H0 H) (hsz : H'.size = H.size + 1) (ho : ∀ z : Nat, z < H.size → H'[z]? = H[z]?)
    (hq : cellOK D base (fun a => if a = sh.length then c0 else cA a) (sh ++ [e0], zr I sh.length 0, zr L sh.length 0, zr R sh.length none) U H' sh.length e0) :
    HR D base (fun a => if a = sh.length then c0 else cA a) (sh ++ [e0], zr I sh.length 0, zr L sh.length 0, zr R sh.length none) U H0 H' := by
  obtain ⟨h1, h2, h3⟩ := h
  dsimp only at h1 h3
  refine ⟨by rw [hsz, h1]; simp; omega, fun z hz => by rw [ho z (by omega)]; exact h2 z hz, fun a e he => ?_⟩
  dsimp only at he
  by_cases hlt : a < sh.length
  · rw [List.getElem?_append_left hlt] at he
    have hc := h3 a e he
    have hh : H'[base + a]? = H[base + a]? := ho _ (by omega)
    have hne : ¬ a = sh.length := by omega
    have hsv : ∀ k t : Nat, sv base (sh ++ [e0], zr I sh.length 0, zr L sh.length 0, zr R sh.length none) a k t = sv base (sh, I, L, R) a k t := by
      intro k t
      unfold sv zr
      simp [hne]
    unfold cellOK at hc ⊢
    cases e with
    | inr ci =>
      dsimp only at hc ⊢
      exact (hc.kept hh).to (fun k _ => (hsv k _).symm)
    | inl x =>
      dsimp only at hc ⊢
      rw [if_neg hne]
      refine ⟨by rw [hh, hc.1]; congr 2; funext j; exact (hsv j _).symm, hc.2⟩
  · have hae : a = sh.length := by
      have := (List.getElem?_eq_some_iff.mp he).1
      simp at this
      omega
    subst hae
    simp at he
    subst he
    exact hq
theorem sv_I_ne {base : Nat} {sh : List mE} {I : Nat → Nat → Int32} {L : Nat → Nat → Int64} {R : Nat → Nat → Option Nat} {q b a k t : Nat} {x : Int32} (h : ¬ (a = q ∧ k = b)) : sv base (sh, up2 I q b x, L, R) a k t = sv base (sh, I, L, R) a k t := by
  unfold sv up2
  split <;> try rfl
  dsimp only
  by_cases h1 : a = q
  · by_cases h2 : k = b
    · exact absurd ⟨h1, h2⟩ h
    · rw [if_pos h1, if_neg h2]
  · rw [if_neg h1]
theorem sv_L_ne {base : Nat} {sh : List mE} {I : Nat → Nat → Int32} {L : Nat → Nat → Int64} {R : Nat → Nat → Option Nat} {q b a k t : Nat} {x : Int64} (h : ¬ (a = q ∧ k = b)) : sv base (sh, I, up2 L q b x, R) a k t = sv base (sh, I, L, R) a k t := by
  unfold sv up2
  split <;> try rfl
  dsimp only
  by_cases h1 : a = q
  · by_cases h2 : k = b
    · exact absurd ⟨h1, h2⟩ h
    · rw [if_pos h1, if_neg h2]
  · rw [if_neg h1]
theorem sv_R_ne {base : Nat} {sh : List mE} {I : Nat → Nat → Int32} {L : Nat → Nat → Int64} {R : Nat → Nat → Option Nat} {q b a k t : Nat} {x : Option Nat} (h : ¬ (a = q ∧ k = b)) : sv base (sh, I, L, up2 R q b x) a k t = sv base (sh, I, L, R) a k t := by
  unfold sv up2
  split <;> try rfl
  dsimp only
  by_cases h1 : a = q
  · by_cases h2 : k = b
    · exact absurd ⟨h1, h2⟩ h
    · rw [if_pos h1, if_neg h2]
  · rw [if_neg h1]
theorem sv_I_eq {base : Nat} {sh : List mE} {I : Nat → Nat → Int32} {L : Nat → Nat → Int64} {R : Nat → Nat → Option Nat} {q b t : Nat} {x : Int32} (h1 : ¬ t = 1) (h2 : ¬ t = 2) : sv base (sh, up2 I q b x, L, R) q b t = .int x := by
  unfold sv up2
  split
  · exact absurd rfl h1
  · exact absurd rfl h2
  · simp
theorem sv_L_eq {base : Nat} {sh : List mE} {I : Nat → Nat → Int32} {L : Nat → Nat → Int64} {R : Nat → Nat → Option Nat} {q b : Nat} {x : Int64} : sv base (sh, I, up2 L q b x, R) q b 1 = .long x := by
  unfold sv up2
  simp
theorem sv_R_eq {base : Nat} {sh : List mE} {I : Nat → Nat → Int32} {L : Nat → Nat → Int64} {R : Nat → Nat → Option Nat} {q b : Nat} {x : Nat} : sv base (sh, I, L, up2 R q b (some x)) q b 2 = .ref (base + x) := by
  unfold sv up2
  simp [rfv]
theorem inR_in {i : Int32} {n : Nat} (h : inR i n = true) : vp_in i n := by
  unfold inR at h
  simp only [Bool.and_eq_true, decide_eq_true_eq] at h
  intro q
  rcases q with q | q
  · exact h.1 q
  · omega
theorem inR_lt {i : Int32} {n : Nat} (h : inR i n = true) : i.toNatClampNeg < n := by
  unfold inR at h
  simp only [Bool.and_eq_true, decide_eq_true_eq] at h
  exact h.2
section RW3
variable {p : Program} {l : Launch} {e : Env} {R : Room} {s : State} {m : MethodId} {args : Array Value} {below : List Frame} {meth : Method} {c : Code} {H : Heap} {locs : List Loc} {cells slots : Nat} {Z : State → Prop}
variable {cc : ByteArray} {pc : Nat} {lsA : Array Slot} {rest : List Value} {base xa nL : Nat} {ls : mL} {D : va_G} {cA : Nat → ClassId} {w : mW} {H0 : Heap}
theorem rw_ldf (hx : p.tables.exec = Jvm.exec) (hb : c.code = cc) {co : Nat} (hown : s.vm.findClass (mcn co) = some m.cls) (hts : ∀ w ∈ lw_tbk, w.before args s = true) (hK : va_K D mcv [] s) (hH : HR D base cA w s H0 H) {i a b h : Nat} {st st' : List Value} (hd : decode cc pc = .ok (.getfield i, 3)) (ho : (mFLt[h]?).map (fun q => (q.1, q.2.1, q.2.2.1, q.2.2.2.1)) = some (co, i, a, b)) (hs : ldf w a b st = some st')
    (k : W p l e R s m args below meth c H locs cells slots Z (F0 m (pc + 3) lsA (st'.map (trv base xa)))) : W p l e R s m args below meth c H locs cells slots Z (F0 m pc lsA (st.map (trv base xa))) := by
  unfold ldf at hs
  split at hs
  · next q r =>
    split at hs
    · next cn hsh =>
      split at hs
      · next hc =>
        obtain ⟨rfl, hbl⟩ := hc
        obtain ⟨v, hv, rfl⟩ := Option.map_eq_some_iff.mp hs
        obtain ⟨cq, f, hmF, hf, hn1, hn2⟩ := mfn_at hbl
        have hlk := flC_in ho
        rw [hn1, hn2] at hlk
        have hfl : flds cn = cq.2 := flds_at hmF
        have hcell : t_OB (base + q) (D.1 cn) (flds cn).length (D.2 cn) H (fun k => sv base w q k (tk (ftyOf (flds cn) k))) := hH.2.2 q _ hsh
        rw [hfl] at hcell hbl hv
        have hT : fTof cq.1 cq.2 b = (cq.1, f.1, f.2.1, f.2.2.1) := fTof_at hf
        have hP : va_P D mcv [(base + q, .inr (cn, (List.range cq.2.length).map (fun k => sv base w q k (tk (ftyOf cq.2 k)))))] H := by
          intro k0 x hk0
          have hz : k0 < 1 := (List.getElem?_eq_some_iff.mp hk0).1
          rw [show k0 = 0 by omega] at hk0
          cases hk0
          refine ⟨_, mcv_at hmF, hcell.to (fun k hk => ?_)⟩
          simp [vp_V, hk]
        refine va_get (D := D) (cl := mcv) (tys := []) (ci := cn) (C := cq.1) (T := fTof cq.1 cq.2) (N := cq.2.length) (ref := cq.1) (own := mcn co) (index := i) (v := trv base xa v) hx hb hts (okK_in hmF) hown hK hP 0 rfl (mcv_at hmF) b hbl (by rw [hT]; exact hts _ hlk) (fun x h9 => by rw [hT] at h9 ⊢; exact h9) ?_ hd k
        rw [List.getElem?_map, List.getElem?_range hbl, ← sv_tr hv]
        rfl
      · cases hs
    · cases hs
  · cases hs
theorem rw_lda {X : mX} (hx : p.tables.exec = Jvm.exec) (hb : c.code = cc) (hH : HR D base cA w s s.heap H) (hX : ∀ (n : Nat) (f : Nat → Int32), X = some (n, f) → xa < base ∧ va_Y xa n f s s.heap) {ins : Instr} {len : Nat} {st st' : List Value} (hd : decode cc pc = .ok (ins, len)) (hn : len = ilen ins ∨ ilen ins = 0) (hs : lda X w ins st = some st')
    (k : W p l e R s m args below meth c H locs cells slots Z (F0 m (pc + 1) lsA (st'.map (trv base xa)))) : W p l e R s m args below meth c H locs cells slots Z (F0 m pc lsA (st.map (trv base xa))) := by
  have hlen : ilen ins = 1 → len = 1 := fun q => by rcases hn with hn | hn <;> omega
  unfold lda at hs
  split at hs
  · obtain rfl := hlen rfl
    split at hs
    · next q r ty n hsh =>
      cases hs
      obtain ⟨h1, h2, h2'⟩ := hH.2.2 _ _ hsh
      exact W.alen (n := Int32.ofNat n) hx hb h1 (h2 n _) (by rw [arrV_size] <;> rfl) rfl rfl hd k
    · cases hs
  · obtain rfl := hlen rfl
    split at hs
    · next n f =>
      cases hs
      obtain ⟨hlt, scr, q1, q2, q3, q4, q5⟩ := hX n f rfl
      exact W.alen (n := Int32.ofNat n) hx hb (by rw [hH.2.1 xa hlt]; exact q1) q2 q4.2 rfl rfl hd k
    · cases hs
  · obtain rfl := hlen rfl
    split at hs
    · next n f =>
      obtain ⟨hlt, scr, q1, q2, q3, q4, q5⟩ := hX n f rfl
      cases hi : inR _ n with
      | false => rw [hi] at hs; cases hs
      | true =>
        rw [hi] at hs
        cases hs
        exact W.iald (cell := scr) (v := .int (f _)) hx hb (by rw [hH.2.1 xa hlt]; exact q1) q2 q3 (fun z => inR_in hi (z.imp id (fun y => Nat.le_trans q4.1 y))) (q5 _ (inR_lt hi)) rfl rfl hd k
    · cases hs
  · split at hs
    · next _ _ i q r _ ty n hsh =>
      obtain ⟨h1, h2, h2'⟩ := hH.2.2 _ _ hsh
      dsimp only at h1 h2
      cases hi : (aok ins ty && inR i n) with
      | false => rw [hi] at hs; cases hs
      | true =>
        rw [hi] at hs
        dsimp only [cond_true] at hs
        simp only [Bool.and_eq_true] at hi
        obtain ⟨ha, hi⟩ := hi
        split at hs
        · obtain rfl := hlen rfl
          cases hs
          cases ty <;> simp only [aok] at ha <;> try (cases ha; done)
          exact W.iald (v := .int (w.2.1 q i.toNatClampNeg)) hx hb h1 (h2 n _) (fun q => by cases q) (by rw [arrV_size]; exact inR_in hi) (by rw [arrV_read _ _ (inR_lt hi)]; rfl) rfl rfl hd k
        · obtain rfl := hlen rfl
          cases hs
          cases ty <;> simp only [aok] at ha <;> try (cases ha; done)
          · exact W.bald (v := .int (w.2.1 q i.toNatClampNeg)) hx hb h1 (h2 n _) (fun q => by cases q) (by rw [arrV_size]; exact inR_in hi) (by rw [arrV_read _ _ (inR_lt hi)]; rfl) rfl rfl hd k
          · exact W.zald (v := .int (w.2.1 q i.toNatClampNeg)) hx hb h1 (h2 n _) (fun q => by cases q) (by rw [arrV_size]; exact inR_in hi) (by rw [arrV_read _ _ (inR_lt hi)]; rfl) rfl rfl hd k
        · obtain rfl := hlen rfl
          cases hs
          cases ty <;> simp only [aok] at ha <;> try (cases ha; done)
          exact W.lald (v := .long (w.2.2.1 q i.toNatClampNeg)) hx hb h1 (h2 n _) (fun q => by cases q) (by rw [arrV_size]; exact inR_in hi) (by rw [arrV_read _ _ (inR_lt hi)]; rfl) rfl rfl hd k
        · cases hs
    · cases hs
  · cases hs
theorem arr_upd {c0 : ClassId} {n k : Nat} {f g : Nat → Value} {v : Value} (h1 : g k = v) (h2 : ∀ j : Nat, j ≠ k → g j = f j) : (arrV c0 n f).setSlot k v = arrV c0 n g := by
  rw [arrV_store]
  congr 1
  funext j
  unfold updV
  by_cases hj : j = k
  · subst hj
    rw [if_pos rfl, h1]
  · rw [if_neg hj, h2 j hj]
theorem rw_sta (hx : p.tables.exec = Jvm.exec) (hb : c.code = cc) (hH : HR D base cA w s H0 H) (hL : ∀ q ∈ locs, base ≤ q.base) {ins : Instr} {len : Nat} {st st' : List Value} {w' : mW} (hd : decode cc pc = .ok (ins, len)) (hn : len = ilen ins ∨ ilen ins = 0) (hs : sta w ins st = some (st', w'))
    (k : ∀ (H' : Heap) (locs' : List Loc), HR D base cA w' s H0 H' → (∀ q ∈ locs', base ≤ q.base) → W p l e R s m args below meth c H' locs' cells slots Z (F0 m (pc + 1) lsA (st'.map (trv base xa)))) : W p l e R s m args below meth c H locs cells slots Z (F0 m pc lsA (st.map (trv base xa))) := by
  have hlen : ilen ins = 1 → len = 1 := fun q => by rcases hn with hn | hn <;> omega
  have hloc : ∀ (q k : Nat), ∀ z ∈ locs ++ [(⟨base + q, k⟩ : Loc)], base ≤ z.base := by
    intro q k z hz
    rcases List.mem_append.mp hz with h | h
    · exact hL z h
    · rw [List.mem_singleton.mp h]
      exact Nat.le_add_right _ _
  obtain ⟨sh, I, L, Rr⟩ := w
  unfold sta at hs
  dsimp only at hs
  split at hs
  · obtain rfl := hlen rfl
    next x i q r =>
    split at hs
    · next ty n hsh =>
      cases hi : (aok .lastore ty && inR i n) with
      | false => rw [hi] at hs; cases hs
      | true =>
        rw [hi] at hs
        cases hs
        simp only [Bool.and_eq_true] at hi
        obtain ⟨ha, hi⟩ := hi
        cases ty <;> simp only [aok] at ha <;> try (cases ha; done)
        obtain ⟨h1, h2, h2'⟩ := hH.2.2 _ _ hsh
        refine W.last hx hb h1 (h2 n _) (fun q => by cases q) (by rw [arrV_size]; exact inR_in hi) rfl rfl hd fun H1 e z oq => k H1 _ ?_ (hloc _ _)
        refine HR_upd hH rfl z oq (fun a ha k t => sv_L_ne (fun q => ha q.1)) (fun e1 he1 => ?_)
        cases hsh.symm.trans he1
        exact ⟨e.trans (congrArg some (arr_upd (g := fun j => sv base (sh, I, up2 L q i.toNatClampNeg x, Rr) q j (tk FieldType.long)) sv_L_eq (fun j hj => sv_L_ne (fun q => hj q.2)))), h2, h2'⟩
    · cases hs
  · obtain rfl := hlen rfl
    next x i q r =>
    split at hs
    · next ty n hsh =>
      cases hi : (aok .iastore ty && inR i n) with
      | false => rw [hi] at hs; cases hs
      | true =>
        rw [hi] at hs
        cases hs
        simp only [Bool.and_eq_true] at hi
        obtain ⟨ha, hi⟩ := hi
        cases ty <;> simp only [aok] at ha <;> try (cases ha; done)
        obtain ⟨h1, h2, h2'⟩ := hH.2.2 _ _ hsh
        refine W.iast hx hb h1 (h2 n _) (fun q => by cases q) (by rw [arrV_size]; exact inR_in hi) rfl rfl hd fun H1 e z oq => k H1 _ ?_ (hloc _ _)
        refine HR_upd hH rfl z oq (fun a ha k t => sv_I_ne (fun q => ha q.1)) (fun e1 he1 => ?_)
        cases hsh.symm.trans he1
        exact ⟨e.trans (congrArg some (arr_upd (g := fun j => sv base (sh, up2 I q i.toNatClampNeg x, L, Rr) q j (tk FieldType.int)) (by rw [sv_I_eq (by decide) (by decide)] <;> rfl) (fun j hj => sv_I_ne (fun q => hj q.2)))), h2, h2'⟩
    · cases hs
  · obtain rfl := hlen rfl
    next x i q r =>
    split at hs
    · next ty n hsh =>
      cases hi : (aok .bastore ty && inR i n) with
      | false => rw [hi] at hs; cases hs
      | true =>
        rw [hi] at hs
        cases hs
        simp only [Bool.and_eq_true] at hi
        obtain ⟨ha, hi⟩ := hi
        obtain ⟨h1, h2, h2'⟩ := hH.2.2 _ _ hsh
        cases ty <;> simp only [aok] at ha <;> try (cases ha; done)
        · refine W.bast hx hb h1 (h2 n _) (fun q => by cases q) (by rw [arrV_size]; exact inR_in hi) rfl rfl hd fun H1 e z oq => k H1 _ ?_ (hloc _ _)
          refine HR_upd hH rfl z oq (fun a ha k t => sv_I_ne (fun q => ha q.1)) (fun e1 he1 => ?_)
          cases hsh.symm.trans he1
          exact ⟨e.trans (congrArg some (arr_upd (g := fun j => sv base (sh, up2 I q i.toNatClampNeg (vp_nar FieldType.byte x), L, Rr) q j (tk FieldType.byte)) (by rw [sv_I_eq (by decide) (by decide)] <;> rfl) (fun j hj => sv_I_ne (fun q => hj q.2)))), h2, h2'⟩
        · refine W.zast hx hb h1 (h2 n _) (fun q => by cases q) (by rw [arrV_size]; exact inR_in hi) rfl rfl hd fun H1 e z oq => k H1 _ ?_ (hloc _ _)
          refine HR_upd hH rfl z oq (fun a ha k t => sv_I_ne (fun q => ha q.1)) (fun e1 he1 => ?_)
          cases hsh.symm.trans he1
          exact ⟨e.trans (congrArg some (arr_upd (g := fun j => sv base (sh, up2 I q i.toNatClampNeg (vp_nar FieldType.boolean x), L, Rr) q j (tk FieldType.boolean)) (by rw [sv_I_eq (by decide) (by decide)] <;> rfl) (fun j hj => sv_I_ne (fun q => hj q.2)))), h2, h2'⟩
    · cases hs
  · cases hs
end RW3
section RW4
variable {p : Program} {l : Launch} {e : Env} {R : Room} {s : State} {m : MethodId} {args : Array Value} {below : List Frame} {meth : Method} {c : Code} {H : Heap} {locs : List Loc} {cells slots : Nat} {Z : State → Prop}
variable {cc : ByteArray} {pc : Nat} {lsA : Array Slot} {rest : List Value} {base xa nL : Nat} {ls : mL} {D : va_G} {cA : Nat → ClassId} {w : mW} {H0 : Heap}
/-- a field is written: what the heap holds then -/
theorem rw_put (hx : p.tables.exec = Jvm.exec) (hb : c.code = cc) {co : Nat} (hown : s.vm.findClass (mcn co) = some m.cls) (hts : ∀ w ∈ lw_tbk, w.before args s = true) (hK : va_K D mcv [] s) (hH : HR D base cA w s H0 H) (hL : ∀ q ∈ locs, base ≤ q.base) {i a b h q : Nat} (hd : decode cc pc = .ok (.putfield i, 3)) (ho : (mFLt[h]?).map (fun q => (q.1, q.2.1, q.2.2.1, q.2.2.2.1)) = some (co, i, a, b)) {f : mFl} (hf : (flds a)[b]? = some f) (hsh : w.1[q]? = some (.inr a))
    (hfin : f.2.2.1 = true → meth.name = "<init>" ∧ a = co) {v : Value} (hn : narrow f.2.2.2 v = v) (hfit : fits f.2.2.2 v = true) {w' : mW} (hw1 : w'.1 = w.1) (hw2 : ∀ z k t : Nat, ¬ (z = q ∧ k = b) → sv base w' z k t = sv base w z k t) (hw3 : sv base w' q b (tk f.2.2.2) = v)
    (k : ∀ (H' : Heap) (locs' : List Loc), HR D base cA w' s H0 H' → (∀ q ∈ locs', base ≤ q.base) → W p l e R s m args below meth c H' locs' cells slots Z (F0 m (pc + 3) lsA rest)) : W p l e R s m args below meth c H locs cells slots Z (F0 m pc lsA (v :: .ref (base + q) :: rest)) := by
  have hloc : ∀ (q k : Nat), ∀ z ∈ locs ++ [(⟨base + q, k⟩ : Loc)], base ≤ z.base := by
    intro q k z hz
    rcases List.mem_append.mp hz with h | h
    · exact hL z h
    · rw [List.mem_singleton.mp h]
      exact Nat.le_add_right _ _
  obtain ⟨cq, f', hmF, hf', hn1, hn2⟩ := mfn_at (List.getElem?_eq_some_iff.mp hf).1
  · have hfl : flds a = cq.2 := flds_at hmF
    rw [hfl] at hf
    cases hf.symm.trans hf'
    have hbl : b < cq.2.length := (List.getElem?_eq_some_iff.mp hf).1
    have hlk := flC_in ho
    rw [hn1, hn2] at hlk
    have hT : fTof cq.1 cq.2 b = (cq.1, f.1, f.2.1, f.2.2.1) := fTof_at hf
    have hty : ftyOf cq.2 b = f.2.2.2 := ftyOf_at hf
    have hcell : t_OB (base + q) (D.1 a) (flds a).length (D.2 a) H (fun k => sv base w q k (tk (ftyOf (flds a) k))) := hH.2.2 q _ hsh
    rw [hfl] at hcell
    obtain ⟨cell, q1, q2, q3, q4⟩ := hcell
    have hin := okK_in hmF
    have hap := va_apart (own := mcn co) (tys := []) hts hin (ftyOf cq.2) (okK_ty hmF) (okK_nm hmF) hK (mcv_at hmF)
    obtain ⟨hS, hfc, kC, hkC, hkind⟩ := hK.1 a _ (mcv_at hmF)
    obtain ⟨cf, kf, fi, fd, hi, hsl⟩ := hS b hbl
    dsimp only at hi hsl
    rw [hT] at hi
    dsimp only at hi
    have hd5 : parseFieldDescriptor f.2.1 = some f.2.2.2 := by
      have := okK_ty hmF b hbl
      rw [hT, hty] at this
      exact this
    have hlays := u_lays hts hin hbl
    rw [hT] at hlays
    dsimp only at hlays
    have hst := (u_facts hfc hkC hlays hi).1
    have hlay := hts _ (hin _ (u_in_lay hbl))
    unfold u_lay at hlay
    rw [hT] at hlay
    dsimp only at hlay
    have fin : ∀ H1 : Heap, H1[base + q]? = some (cell.setSlot fd.slot v) → H1.size = H.size → (∀ z : Nat, z ≠ base + q → H1[z]? = H[z]?) → HR D base cA w' s H0 H1 := by
      intro H1 e1 e2 e3
      refine HR_upd hH hw1 e2 e3 (fun z hz k t => hw2 z k t (fun y => hz y.1)) (fun ee hee => ?_)
      cases hsh.symm.trans hee
      show t_OB (base + q) (D.1 a) (flds a).length (D.2 a) H1 (fun k => sv base w' q k (tk (ftyOf (flds a) k)))
      rw [hfl]
      rw [hsl] at e1
      refine t_OB.to (V := updV (fun k => sv base w q k (tk (ftyOf cq.2 k))) b v) ⟨_, e1, q2, q3, t_set q4 hap hbl v⟩ (fun j _ => ?_)
      unfold updV
      by_cases hj : j = b
      · subst hj
        rw [if_pos rfl, hty]
        exact hw3.symm
      · rw [if_neg hj]
        exact (hw2 q j _ (fun y => hj y.2)).symm
    have hlt : fd.slot < cell.slots.size := by rw [hsl]; exact k2_hasslot (q4 b hbl)
    cases hff : f.2.2.1 with
    | false =>
      rw [if_neg (by rw [hff]; decide)] at hlay
      have h6 := u_store hfc hkC hkind hlay hi hd5 hn hfit
      exact W.putK hx hb (f := fd) ⟨hown, hts _ hlk, ⟨_, _, _, hi⟩, hst⟩ (by rw [q2]; exact h6) q1 q3 hlt rfl rfl hd fun H1 e1 e2 e3 => k H1 _ (fin H1 e1 e2 e3) (hloc _ _)
    | true =>
      obtain ⟨hin2, hown3⟩ := hfin hff
      have hown4 : cq.1 = mcn co := by rw [← hn1, hown3]
      rw [if_pos hff] at hlay
      have hcf : m.cls = cf := by
        obtain ⟨_, _, c', _, _, _, -, -, hf', -, -, -, hown2, -⟩ := Cond.laysFinal_spec hlay
        have e1 : c' = cf := by have := hi.symm.trans hf'; simp at this; exact this.1.symm
        rw [hown4] at hown2
        rw [← e1]; exact Option.some.inj (hown.symm.trans hown2)
      have h6 := u_fits hfc hkC hkind (Or.inr hlay) hi hd5 hn hfit
      exact W.putFinK hx hb hown (hts _ hlk) hi hst hcf hin2 (by rw [q2]; exact h6) q1 q3 hlt rfl rfl hd fun H1 e1 e2 e3 => k H1 _ (fin H1 e1 e2 e3) (hloc _ _)
theorem rw_stf (hx : p.tables.exec = Jvm.exec) (hb : c.code = cc) {co : Nat} (hown : s.vm.findClass (mcn co) = some m.cls) (hts : ∀ w ∈ lw_tbk, w.before args s = true) (hK : va_K D mcv [] s) (hH : HR D base cA w s H0 H) (hL : ∀ q ∈ locs, base ≤ q.base) {i a b h ini : Nat} {st st' : List Value} {w' : mW} (hd : decode cc pc = .ok (.putfield i, 3)) (ho : (mFLt[h]?).map (fun q => (q.1, q.2.1, q.2.2.1, q.2.2.2.1)) = some (co, i, a, b)) (hini : ini = a → meth.name = "<init>" ∧ a = co) (hs : stf w ini a b st = some (st', w'))
    (k : ∀ (H' : Heap) (locs' : List Loc), HR D base cA w' s H0 H' → (∀ q ∈ locs', base ≤ q.base) → W p l e R s m args below meth c H' locs' cells slots Z (F0 m (pc + 3) lsA (st'.map (trv base xa)))) : W p l e R s m args below meth c H locs cells slots Z (F0 m pc lsA (st.map (trv base xa))) := by
  obtain ⟨sh, I, L, Rr⟩ := w
  unfold stf at hs
  dsimp only at hs
  split at hs
  · next v q r =>
    split at hs
    · next cn hsh =>
      split at hs
      · next f hf =>
        cases hg : (decide (cn = a) && (!f.2.2.1 || decide (ini = a))) with
        | false => rw [hg] at hs; cases hs
        | true =>
          rw [hg] at hs
          dsimp only [cond_true] at hs
          simp only [Bool.and_eq_true, Bool.or_eq_true, decide_eq_true_eq, Bool.not_eq_true'] at hg
          obtain ⟨rfl, hg⟩ := hg
          have hfin : f.2.2.1 = true → meth.name = "<init>" ∧ cn = co := by
            intro q
            rcases hg with hg | hg
            · rw [q] at hg; cases hg
            · exact hini hg
          split at hs
          · next x hty =>
            cases hs
            exact rw_put (w' := (sh, up2 I q b x, L, Rr)) hx hb hown hts hK hH hL hd ho hf hsh hfin (v := .int x) (by rw [hty]; rfl) (by rw [hty]; rfl) rfl (fun z k t hz => sv_I_ne hz) (by rw [hty]; exact sv_I_eq (by decide) (by decide)) k
          · next x hty =>
            split at hs
            · next hx01 =>
              cases hs
              exact rw_put (w' := (sh, up2 I q b x, L, Rr)) hx hb hown hts hK hH hL hd ho hf hsh hfin (v := .int x) (by rw [hty]; rcases hx01 with rfl | rfl <;> rfl) (by rw [hty]; rcases hx01 with rfl | rfl <;> rfl) rfl (fun z k t hz => sv_I_ne hz) (by rw [hty]; exact sv_I_eq (by decide) (by decide)) k
            · cases hs
          · next x hty =>
            cases hs
            exact rw_put (w' := (sh, I, up2 L q b x, Rr)) hx hb hown hts hK hH hL hd ho hf hsh hfin (v := .long x) (by rw [hty]; rfl) (by rw [hty]; rfl) rfl (fun z k t hz => sv_L_ne hz) (by rw [hty]; exact sv_L_eq) k
          · next x hty =>
            cases hs
            exact rw_put (w' := (sh, I, L, up2 Rr q b (some x))) hx hb hown hts hK hH hL hd ho hf hsh hfin (v := .ref (base + x)) (by rw [hty]; rfl) (by rw [hty]; rfl) rfl (fun z k t hz => sv_R_ne hz) (by rw [hty]; exact sv_R_eq) k
          · next x hty =>
            cases hs
            exact rw_put (w' := (sh, I, L, up2 Rr q b (some x))) hx hb hown hts hK hH hL hd ho hf hsh hfin (v := .ref (base + x)) (by rw [hty]; rfl) (by rw [hty]; rfl) rfl (fun z k t hz => sv_R_ne hz) (by rw [hty]; exact sv_R_eq) k
          · cases hs
      · cases hs
    · cases hs
  · cases hs
theorem sv_zr {sh : List mE} {I : Nat → Nat → Int32} {L : Nat → Nat → Int64} {Rr : Nat → Nat → Option Nat} {e0 : mE} {k : Nat} {ty : FieldType} (h : tk ty < 3) : sv base (sh ++ [e0], zr I sh.length 0, zr L sh.length 0, zr Rr sh.length none) sh.length k (tk ty) = defaultValue ty := by
  cases ty <;> simp [tk] at h <;> simp [sv, tk, zr, rfv, defaultValue]
theorem rw_nwc (hx : p.tables.exec = Jvm.exec) (hb : c.code = cc) {co : Nat} (hown : s.vm.findClass (mcn co) = some m.cls) (hts : ∀ w ∈ lw_tbk, w.before args s = true) (hK : va_K D mcv [] s) (hH : HR D base cA w s H0 H) {ins : Instr} {len a b h n : Nat} {v : Int} {st st' : List Value} {w' : mW} (hd : decode cc pc = .ok (ins, len)) (hn : len = ilen ins ∨ ilen ins = 0) (ho : okL co (pc, ins, len, a, b, v, h) = true) (hs : nwc w a ins st = some (st', w', n)) (hcl : cells + 1 ≤ R.cells) (hsl : slots + n ≤ R.slots)
    (k : ∀ (H' : Heap) (cA' : Nat → ClassId), HR D base cA' w' s H0 H' → W p l e R s m args below meth c H' locs (cells + 1) (slots + n) Z (F0 m (pc + len) lsA (st'.map (trv base xa)))) : W p l e R s m args below meth c H locs cells slots Z (F0 m pc lsA (st.map (trv base xa))) := by
  obtain ⟨sh, I, L, Rr⟩ := w
  have hsz : H.size = base + sh.length := hH.1
  unfold nwc at hs
  dsimp only at hs
  split at hs
  · split at hs
    case isFalse => cases hs
    next hal =>
    obtain rfl : len = 3 := by rcases hn with hn | hn <;> simp [ilen] at hn <;> exact hn
    cases hs
    unfold okL at ho
    dsimp only at ho
    have hlk := clC_in (of_decide_eq_true ho)
    obtain ⟨cq, hmF⟩ : ∃ cq, mF[a]? = some cq := ⟨mF[a], List.getElem?_eq_getElem hal⟩
    rw [mcn_at hmF] at hlk
    have hfl : flds a = cq.2 := flds_at hmF
    have hKn := hK.1 a _ (mcv_at hmF)
    have hin := okK_in hmF
    rw [hfl] at hsl k
    refine W.newcK hx hb hown (hts _ hlk) (hts _ (okK_ins hmF)) (hts _ (okK_ini hmF)) rfl hd hcl hsl hKn.2.1 rfl fun H1 kC hkC e1 z1 o1 => ?_
    rw [hsz] at e1
    have hnew := HR_new (c0 := 0) (e0 := .inr a) hH z1 o1 (by
      show t_OB (base + sh.length) (D.1 a) (flds a).length (D.2 a) H1 _
      rw [hfl]
      exact (u_born (ftyOf cq.2) hts hin hKn hkC e1 (okK_ty hmF)).to (fun j hj => (sv_zr (okK_tk hmF j hj)).symm))
    have := k H1 _ hnew
    rw [List.map_cons] at this
    rw [hsz]
    exact this
  · next t nn r =>
    obtain rfl : len = 2 := by rcases hn with hn | hn <;> simp [ilen] at hn <;> exact hn
    cases hg : (!(decide (nn < 0)) && decide (nn.toNatClampNeg ≤ 100000) && nok t) with
    | false => rw [hg] at hs; cases hs
    | true =>
      rw [hg] at hs
      cases hs
      simp only [Bool.and_eq_true, Bool.not_eq_true', decide_eq_false_iff_not, decide_eq_true_eq] at hg
      have harr : (Cond.arrayClass (newarray.typeOf t)).before args s = true := by
        cases t <;> first | (exact hts _ (tbk_of (by decide +kernel) rfl)) | (exact absurd hg.2 (by decide))
      have hbytes : nn.toNatClampNeg * componentBytes (newarray.typeOf t) ≤ 536870912 := by
        have h8 : componentBytes (newarray.typeOf t) ≤ 8 := by cases t <;> decide
        have := Nat.mul_le_mul hg.1.2 h8
        omega
      refine va_newaK hx hb harr rfl hd rfl hg.1.1 rfl hbytes hcl hsl rfl fun H1 c0 e1 z1 o1 hAr hNm => ?_
      rw [hsz] at e1
      have hnew := HR_new (c0 := c0) (e0 := .inl (newarray.typeOf t, nn.toNatClampNeg)) hH z1 o1 (by
        refine ⟨?_, ?_⟩
        · show H1[base + sh.length]? = _
          rw [e1]
          dsimp only
          rw [if_pos rfl]
          congr 2
          funext j
          exact (sv_zr (by have := hg.2; cases t <;> first | decide | (exact absurd this (by decide)))).symm
        · dsimp only
          rw [if_pos rfl]
          refine ⟨hAr, fun et => ?_, fun et => by cases t <;> cases et⟩
          have et : newarray.typeOf t = .int := et
          rw [et] at hNm
          exact hNm)
      have := k H1 _ hnew
      rw [List.map_cons] at this
      rw [hsz]
      exact this
  · next i nn r =>
    obtain rfl : len = 3 := by rcases hn with hn | hn <;> simp [ilen] at hn <;> exact hn
    cases hg : (!(decide (nn < 0)) && decide (nn.toNatClampNeg ≤ 100000)) with
    | false => rw [hg] at hs; cases hs
    | true =>
      rw [hg] at hs
      cases hs
      simp only [Bool.and_eq_true, Bool.not_eq_true', decide_eq_false_iff_not, decide_eq_true_eq] at hg
      unfold okL at ho
      dsimp only at ho
      have hlk := caC_in (of_decide_eq_true ho)
      have hov : Cond.arrayOver (.array .int) ∈ lw_tbk := tbk_of (by decide +kernel) rfl
      refine W.anewA (t := .int) hx hb hown (hts _ hlk) (hts _ hov) rfl hd rfl hg.1 (by omega) hcl hsl fun c0 kA comp f1 f2 f3 f4 => ?_
      generalize hH1 : H.push ({ cls := c0, slots := Array.replicate nn.toNatClampNeg .null, vm := .none } : Cell) = H1
      have z1 : H1.size = H.size + 1 := by rw [← hH1, Array.size_push]
      have e1 : H1[H.size]? = some (arrV c0 nn.toNatClampNeg (fun _ => .null)) := by rw [← hH1, Array.getElem?_push_size, ← arrV_new]
      have o1 : ∀ q : Nat, q < H.size → H1[q]? = H[q]? := fun q hq => by rw [← hH1, Array.getElem?_push, if_neg (Nat.ne_of_lt hq)]
      have hAr : ArrOfT s c0 (.array .int) := fun N z => ⟨(fun k h => by cases h), kA, f2, comp, f3⟩
      rw [hsz] at e1
      have hnew := HR_new (c0 := c0) (e0 := .inl (.array .int, nn.toNatClampNeg)) hH z1 o1 (by
        refine ⟨?_, ?_⟩
        · show H1[base + sh.length]? = _
          rw [e1]
          dsimp only
          rw [if_pos rfl]
          congr 2
          funext j
          exact (sv_zr (ty := .array .int) (by decide)).symm
        · dsimp only
          rw [if_pos rfl]
          refine ⟨hAr, And.intro (fun et => ?_) (fun _ => ⟨kA, comp, f2, f3, f4⟩)⟩
          cases et)
      have := k _ _ hnew
      rw [List.map_cons] at this
      rw [hsz]
      exact this
  · cases hs
end RW4
