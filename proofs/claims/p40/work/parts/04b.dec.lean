/-! ===== decode by the bytes of a short stretch (for the law's own code, which is long) ===== -/
abbrev ruB (B : ByteArray) (p : Nat) : Except Jvm.ClassFile.DecodeError (Nat × Nat) := Jvm.ClassFile.Reader.runAt (Jvm.ClassFile.Reader.u1 : Jvm.ClassFile.Decoder Nat) B p
abbrev ruB2 (B : ByteArray) (p : Nat) : Except Jvm.ClassFile.DecodeError (Nat × Nat) := Jvm.ClassFile.Reader.runAt (Jvm.ClassFile.Reader.u2 : Jvm.ClassFile.Decoder Nat) B p
abbrev rsB1 (B : ByteArray) (p : Nat) : Except Jvm.ClassFile.DecodeError (Int × Nat) := Jvm.ClassFile.Reader.runAt (Jvm.ClassFile.Reader.s1 : Jvm.ClassFile.Decoder Int) B p
abbrev rsB2 (B : ByteArray) (p : Nat) : Except Jvm.ClassFile.DecodeError (Int × Nat) := Jvm.ClassFile.Reader.runAt (Jvm.ClassFile.Reader.s2 : Jvm.ClassFile.Decoder Int) B p
abbrev riB (B : ByteArray) (p : Nat) : Except Jvm.ClassFile.DecodeError (Instr × Nat) := Jvm.ClassFile.Reader.runAt (Jvm.ClassFile.Decoder.instr p) B p
def uO (B : ByteArray) (p v : Nat) : Prop := ruB B p = .ok (v, p + 1)
theorem eb_of {α β : Type} {M : Except Jvm.ClassFile.DecodeError β} {r : Except Jvm.ClassFile.DecodeError α} {f : α → Except Jvm.ClassFile.DecodeError β} {a : α} (hd : M = Except.bind r f) (h : r = .ok a) : M = f a := by
  rw [hd, h]
  rfl
theorem uO_of {B : ByteArray} {p v : Nat} {b : UInt8} (h : B.data.toList[p]? = some b) (hv : b.toNat = v) : uO B p v := by
  obtain ⟨hp, e⟩ := List.getElem?_eq_some_iff.mp h
  have hs : p < B.size := hp
  have e2 : B[p]'hs = b := e
  have e3 : ruB B p = (if h : p < B.size then (.ok ((B[p]'h).toNat, p + 1) : Except Jvm.ClassFile.DecodeError (Nat × Nat)) else .error (.truncated p)) := by
    show (dite (p < B.size) _ _ : Jvm.ClassFile.Decoder Nat) B p = _
    rw [dif_pos hs, dif_pos hs]
    rfl
  unfold uO
  rw [e3, dif_pos hs, e2, hv]
theorem u2_ok {B : ByteArray} {p x y : Nat} (h1 : uO B p x) (h2 : uO B (p + 1) y) : ruB2 B p = .ok (x * 256 + y, p + 1 + 1) := by
  have e := eb_of (M := ruB2 B p) (r := ruB B p) rfl h1
  have e2 := e.trans (eb_of (r := ruB B (p + 1)) rfl h2)
  exact e2.trans rfl
theorem s1_ok {B : ByteArray} {p x : Nat} (h1 : uO B p x) : rsB1 B p = .ok (Jvm.ClassFile.Reader.signed 8 x, p + 1) := by
  have e := eb_of (M := rsB1 B p) (r := ruB B p) rfl h1
  exact e.trans rfl
theorem s2_ok {B : ByteArray} {p x y : Nat} (h1 : uO B p x) (h2 : uO B (p + 1) y) : rsB2 B p = .ok (Jvm.ClassFile.Reader.signed 16 (x * 256 + y), p + 1 + 1) := by
  have e := eb_of (M := rsB2 B p) (r := ruB2 B p) rfl (u2_ok h1 h2)
  exact e.trans rfl
theorem dc_fin {B : ByteArray} {p nx n : Nat} {i : Instr} (h : riB B p = .ok (i, nx)) (hn : nx - p = n) : decode B p = .ok (i, n) := by
  have e := eb_of (M := decode B p) (r := riB B p) rfl h
  rw [← hn]
  exact e.trans rfl
theorem dx_29 (B : ByteArray) (p : Nat) (h : uO B p 29) : decode B p = .ok (.iload_n 3, 1) := by
  have e := eb_of (M := riB B p) (r := ruB B p) rfl h
  exact dc_fin (nx := p + 1) (e.trans rfl) (by omega)
theorem dx_42 (B : ByteArray) (p : Nat) (h : uO B p 42) : decode B p = .ok (.aload_n 0, 1) := by
  have e := eb_of (M := riB B p) (r := ruB B p) rfl h
  exact dc_fin (nx := p + 1) (e.trans rfl) (by omega)
theorem dx_46 (B : ByteArray) (p : Nat) (h : uO B p 46) : decode B p = .ok (.iaload, 1) := by
  have e := eb_of (M := riB B p) (r := ruB B p) rfl h
  exact dc_fin (nx := p + 1) (e.trans rfl) (by omega)
theorem dx_96 (B : ByteArray) (p : Nat) (h : uO B p 96) : decode B p = .ok (.iadd, 1) := by
  have e := eb_of (M := riB B p) (r := ruB B p) rfl h
  exact dc_fin (nx := p + 1) (e.trans rfl) (by omega)
theorem dx_4 (B : ByteArray) (p : Nat) (h : uO B p 4) : decode B p = .ok (.iconst 1, 1) := by
  have e := eb_of (M := riB B p) (r := ruB B p) rfl h
  exact dc_fin (nx := p + 1) (e.trans rfl) (by omega)
theorem dx_87 (B : ByteArray) (p : Nat) (h : uO B p 87) : decode B p = .ok (.pop, 1) := by
  have e := eb_of (M := riB B p) (r := ruB B p) rfl h
  exact dc_fin (nx := p + 1) (e.trans rfl) (by omega)
theorem dx_5 (B : ByteArray) (p : Nat) (h : uO B p 5) : decode B p = .ok (.iconst 2, 1) := by
  have e := eb_of (M := riB B p) (r := ruB B p) rfl h
  exact dc_fin (nx := p + 1) (e.trans rfl) (by omega)
theorem dx_43 (B : ByteArray) (p : Nat) (h : uO B p 43) : decode B p = .ok (.aload_n 1, 1) := by
  have e := eb_of (M := riB B p) (r := ruB B p) rfl h
  exact dc_fin (nx := p + 1) (e.trans rfl) (by omega)
theorem dx_44 (B : ByteArray) (p : Nat) (h : uO B p 44) : decode B p = .ok (.aload_n 2, 1) := by
  have e := eb_of (M := riB B p) (r := ruB B p) rfl h
  exact dc_fin (nx := p + 1) (e.trans rfl) (by omega)
theorem dx_6 (B : ByteArray) (p : Nat) (h : uO B p 6) : decode B p = .ok (.iconst 3, 1) := by
  have e := eb_of (M := riB B p) (r := ruB B p) rfl h
  exact dc_fin (nx := p + 1) (e.trans rfl) (by omega)
theorem dx_7 (B : ByteArray) (p : Nat) (h : uO B p 7) : decode B p = .ok (.iconst 4, 1) := by
  have e := eb_of (M := riB B p) (r := ruB B p) rfl h
  exact dc_fin (nx := p + 1) (e.trans rfl) (by omega)
theorem dx_8 (B : ByteArray) (p : Nat) (h : uO B p 8) : decode B p = .ok (.iconst 5, 1) := by
  have e := eb_of (M := riB B p) (r := ruB B p) rfl h
  exact dc_fin (nx := p + 1) (e.trans rfl) (by omega)
theorem dx_3 (B : ByteArray) (p : Nat) (h : uO B p 3) : decode B p = .ok (.iconst 0, 1) := by
  have e := eb_of (M := riB B p) (r := ruB B p) rfl h
  exact dc_fin (nx := p + 1) (e.trans rfl) (by omega)
theorem dx_133 (B : ByteArray) (p : Nat) (h : uO B p 133) : decode B p = .ok (.i2l, 1) := by
  have e := eb_of (M := riB B p) (r := ruB B p) rfl h
  exact dc_fin (nx := p + 1) (e.trans rfl) (by omega)
theorem dx_88 (B : ByteArray) (p : Nat) (h : uO B p 88) : decode B p = .ok (.pop2, 1) := by
  have e := eb_of (M := riB B p) (r := ruB B p) rfl h
  exact dc_fin (nx := p + 1) (e.trans rfl) (by omega)
theorem dx_121 (B : ByteArray) (p : Nat) (h : uO B p 121) : decode B p = .ok (.lshl, 1) := by
  have e := eb_of (M := riB B p) (r := ruB B p) rfl h
  exact dc_fin (nx := p + 1) (e.trans rfl) (by omega)
theorem dx_127 (B : ByteArray) (p : Nat) (h : uO B p 127) : decode B p = .ok (.land, 1) := by
  have e := eb_of (M := riB B p) (r := ruB B p) rfl h
  exact dc_fin (nx := p + 1) (e.trans rfl) (by omega)
theorem dx_129 (B : ByteArray) (p : Nat) (h : uO B p 129) : decode B p = .ok (.lor, 1) := by
  have e := eb_of (M := riB B p) (r := ruB B p) rfl h
  exact dc_fin (nx := p + 1) (e.trans rfl) (by omega)
theorem dx_172 (B : ByteArray) (p : Nat) (h : uO B p 172) : decode B p = .ok (.ireturn, 1) := by
  have e := eb_of (M := riB B p) (r := ruB B p) rfl h
  exact dc_fin (nx := p + 1) (e.trans rfl) (by omega)
theorem dx_182 (B : ByteArray) (p x y : Nat) (h : uO B p 182) (h1 : uO B (p + 1) x) (h2 : uO B (p + 1 + 1) y) : decode B p = .ok (.invokevirtual (x * 256 + y), 3) := by
  have e := eb_of (M := riB B p) (r := ruB B p) rfl h
  have e2 := e.trans (eb_of (r := ruB2 B (p + 1)) rfl (u2_ok h1 h2))
  exact dc_fin (nx := p + 1 + 1 + 1) (e2.trans rfl) (by omega)
theorem dx_20 (B : ByteArray) (p x y : Nat) (h : uO B p 20) (h1 : uO B (p + 1) x) (h2 : uO B (p + 1 + 1) y) : decode B p = .ok (.ldc2_w (x * 256 + y), 3) := by
  have e := eb_of (M := riB B p) (r := ruB B p) rfl h
  have e2 := e.trans (eb_of (r := ruB2 B (p + 1)) rfl (u2_ok h1 h2))
  exact dc_fin (nx := p + 1 + 1 + 1) (e2.trans rfl) (by omega)
theorem dx_167 (B : ByteArray) (p x y : Nat) (h : uO B p 167) (h1 : uO B (p + 1) x) (h2 : uO B (p + 1 + 1) y) : decode B p = .ok (.goto (Jvm.ClassFile.Reader.signed 16 (x * 256 + y)), 3) := by
  have e := eb_of (M := riB B p) (r := ruB B p) rfl h
  have e2 := e.trans (eb_of (r := rsB2 B (p + 1)) rfl (s2_ok h1 h2))
  exact dc_fin (nx := p + 1 + 1 + 1) (e2.trans rfl) (by omega)
theorem dx_159 (B : ByteArray) (p x y : Nat) (h : uO B p 159) (h1 : uO B (p + 1) x) (h2 : uO B (p + 1 + 1) y) : decode B p = .ok (.if_icmp .eq (Jvm.ClassFile.Reader.signed 16 (x * 256 + y)), 3) := by
  have e := eb_of (M := riB B p) (r := ruB B p) rfl h
  have e2 := e.trans (eb_of (r := rsB2 B (p + 1)) rfl (s2_ok h1 h2))
  exact dc_fin (nx := p + 1 + 1 + 1) (e2.trans rfl) (by omega)
theorem dx_16 (B : ByteArray) (p x y : Nat) (h : uO B p 16) (h1 : uO B (p + 1) x) (h2 : uO B (p + 1 + 1) y) : decode B p = .ok (.bipush (Jvm.ClassFile.Reader.signed 8 x), 2) := by
  have e := eb_of (M := riB B p) (r := ruB B p) rfl h
  have e2 := e.trans (eb_of (r := rsB1 B (p + 1)) rfl (s1_ok h1))
  exact dc_fin (nx := p + 1 + 1) (e2.trans rfl) (by omega)
def oneT : List (Nat × Instr) := [(29, .iload_n 3), (42, .aload_n 0), (46, .iaload), (96, .iadd), (4, .iconst 1), (87, .pop), (5, .iconst 2), (43, .aload_n 1), (44, .aload_n 2), (6, .iconst 3), (7, .iconst 4), (8, .iconst 5), (3, .iconst 0), (133, .i2l), (88, .pop2), (121, .lshl), (127, .land), (129, .lor), (172, .ireturn)]
theorem oneT_ok : ∀ e ∈ oneT, ∀ (B : ByteArray) (p : Nat), uO B p e.1 → decode B p = .ok (e.2, 1) := List.forall_mem_cons.mpr ⟨dx_29, List.forall_mem_cons.mpr ⟨dx_42, List.forall_mem_cons.mpr ⟨dx_46, List.forall_mem_cons.mpr ⟨dx_96, List.forall_mem_cons.mpr ⟨dx_4, List.forall_mem_cons.mpr ⟨dx_87, List.forall_mem_cons.mpr ⟨dx_5, List.forall_mem_cons.mpr ⟨dx_43, List.forall_mem_cons.mpr ⟨dx_44, List.forall_mem_cons.mpr ⟨dx_6, List.forall_mem_cons.mpr ⟨dx_7, List.forall_mem_cons.mpr ⟨dx_8, List.forall_mem_cons.mpr ⟨dx_3, List.forall_mem_cons.mpr ⟨dx_133, List.forall_mem_cons.mpr ⟨dx_88, List.forall_mem_cons.mpr ⟨dx_121, List.forall_mem_cons.mpr ⟨dx_127, List.forall_mem_cons.mpr ⟨dx_129, List.forall_mem_cons.mpr ⟨dx_172, (fun _ h => absurd h List.not_mem_nil)⟩⟩⟩⟩⟩⟩⟩⟩⟩⟩⟩⟩⟩⟩⟩⟩⟩⟩⟩
def thrT : List (Nat × (Nat → Nat → Instr × Nat)) := [(182, fun x y => (.invokevirtual (x * 256 + y), 3)), (20, fun x y => (.ldc2_w (x * 256 + y), 3)), (167, fun x y => (.goto (Jvm.ClassFile.Reader.signed 16 (x * 256 + y)), 3)), (159, fun x y => (.if_icmp .eq (Jvm.ClassFile.Reader.signed 16 (x * 256 + y)), 3)), (16, fun x _ => (.bipush (Jvm.ClassFile.Reader.signed 8 x), 2))]
theorem thrT_ok : ∀ e ∈ thrT, ∀ (B : ByteArray) (p x y : Nat), uO B p e.1 → uO B (p + 1) x → uO B (p + 1 + 1) y → decode B p = .ok (e.2 x y) := List.forall_mem_cons.mpr ⟨dx_182, List.forall_mem_cons.mpr ⟨dx_20, List.forall_mem_cons.mpr ⟨dx_167, List.forall_mem_cons.mpr ⟨dx_159, List.forall_mem_cons.mpr ⟨dx_16, (fun _ h => absurd h List.not_mem_nil)⟩⟩⟩⟩⟩
def dec1 (a : Nat) : Option Instr := (oneT.find? (fun e => Nat.beq e.1 a)).map (fun e => e.2)
def dec3 (a x y : Nat) : Option (Instr × Nat) := (thrT.find? (fun e => Nat.beq e.1 a)).map (fun e => e.2 x y)
def decL : List Nat → Option (Instr × Nat)
  | a :: x :: y :: _ => match dec1 a with
    | some i => some (i, 1)
    | none => dec3 a x y
  | _ => none
theorem dec1_ok {B : ByteArray} {p a : Nat} {i : Instr} (h : dec1 a = some i) (h0 : uO B p a) : decode B p = .ok (i, 1) := by
  unfold dec1 at h
  cases e : oneT.find? (fun e => Nat.beq e.1 a) with
  | none =>
    rw [e] at h
    cases h
  | some z =>
    rw [e] at h
    have hb := List.find?_some e
    have hb : Nat.beq z.1 a = true := hb
    have hz := oneT_ok z (List.mem_of_find?_eq_some e) B p (by rw [Nat.eq_of_beq_eq_true hb]; exact h0)
    rw [hz, ← Option.some.inj h]
theorem dec3_ok {B : ByteArray} {p a x y : Nat} {q : Instr × Nat} (h : dec3 a x y = some q) (h0 : uO B p a) (h1 : uO B (p + 1) x) (h2 : uO B (p + 1 + 1) y) : decode B p = .ok q := by
  unfold dec3 at h
  cases e : thrT.find? (fun e => Nat.beq e.1 a) with
  | none =>
    rw [e] at h
    cases h
  | some z =>
    rw [e] at h
    have hb := List.find?_some e
    have hb : Nat.beq z.1 a = true := hb
    have hz := thrT_ok z (List.mem_of_find?_eq_some e) B p x y (by rw [Nat.eq_of_beq_eq_true hb]; exact h0) h1 h2
    rw [hz, ← Option.some.inj h]
theorem decL_ok {B : ByteArray} {p : Nat} {q : Instr × Nat} : ∀ {L : List Nat}, (∀ i v, L[i]? = some v → uO B (p + i) v) → decL L = some q → decode B p = .ok q
  | [], _, h => by cases h
  | [_], _, h => by cases h
  | [_, _], _, h => by cases h
  | a :: x :: y :: r, hp, h => by
    have h0 : uO B p a := hp 0 a rfl
    have h1 : uO B (p + 1) x := hp 1 x rfl
    have h2 : uO B (p + 1 + 1) y := hp 2 y rfl
    have h' : (match dec1 a with | some i => some (i, 1) | none => dec3 a x y) = some q := h
    cases e : dec1 a with
    | some i =>
      rw [e] at h'
      rw [dec1_ok e h0]
      exact congrArg Except.ok (Option.some.inj h')
    | none =>
      rw [e] at h'
      exact dec3_ok h' h0 h1 h2
def pfx : List Nat → List UInt8 → Bool
  | [], _ => true
  | _ :: _, [] => false
  | c :: cs, b :: bs => Nat.beq b.toNat c && pfx cs bs
theorem pfx_get : ∀ {C : List Nat} {l : List UInt8}, pfx C l = true → ∀ {i v : Nat}, C[i]? = some v → ∃ b : UInt8, l[i]? = some b ∧ b.toNat = v
  | [], _, _, i, v, e => by
    rw [List.getElem?_nil] at e
    cases e
  | _ :: _, [], h, _, _, _ => by cases h
  | c :: cs, b :: bs, h, i, v, e => by
    have h' : (Nat.beq b.toNat c && pfx cs bs) = true := h
    simp only [Bool.and_eq_true] at h'
    cases i with
    | zero =>
      have e' : some c = some v := e
      exact ⟨b, rfl, (Nat.eq_of_beq_eq_true h'.1).trans (Option.some.inj e')⟩
    | succ i =>
      have e' : cs[i]? = some v := e
      obtain ⟨b2, g1, g2⟩ := pfx_get h'.2 e'
      exact ⟨b2, g1, g2⟩
noncomputable def okF (co k : Nat) (C : List Nat) (e : mIn) : Bool := Nat.ble k e.1 && (match decL (C.drop (e.1 - k)) with
  | some q => (qI q.1 e.2.1 || decide (q.1 = e.2.1)) && decide (q.2 = e.2.2.1) && (decide (e.2.2.1 = ilen e.2.1) || decide (ilen e.2.1 = 0)) && okL co e
  | none => false)
theorem okF_ok {co k : Nat} {B : ByteArray} {C : List Nat} {e : mIn} (hp : pfx C (B.data.toList.drop k) = true) (h : okF co k C e = true) : okE co B e = true := by
  unfold okF at h
  rw [Bool.and_eq_true] at h
  obtain ⟨h1, h2⟩ := h
  have hk : k ≤ e.1 := Nat.le_of_ble_eq_true h1
  cases eq : decL (C.drop (e.1 - k)) with
  | none =>
    rw [eq] at h2
    cases h2
  | some q =>
    rw [eq] at h2
    have hd : decode B e.1 = .ok q := by
      refine decL_ok (fun i v hv => ?_) eq
      rw [List.getElem?_drop] at hv
      obtain ⟨b, hb, ev⟩ := pfx_get hp hv
      rw [List.getElem?_drop, show k + (e.1 - k + i) = e.1 + i by omega] at hb
      exact uO_of hb ev
    unfold okE
    rw [hd]
    exact h2
theorem all_okF {co k : Nat} {B : ByteArray} {C : List Nat} {l : List mIn} (hp : pfx C (B.data.toList.drop k) = true) (h : l.all (okF co k C) = true) : l.all (okE co B) = true := by
  rw [List.all_eq_true] at h ⊢
  exact fun e he => okF_ok hp (h e he)
