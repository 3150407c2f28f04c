/-! ===== decode by the bytes of a short stretch (for the law's own code, which is long) ===== -/
abbrev ruB (B : ByteArray) (p : Nat) : Except Jvm.ClassFile.DecodeError (Nat × Nat) := Jvm.ClassFile.Reader.runAt (Jvm.ClassFile.Reader.u1 : Jvm.ClassFile.Decoder Nat) B p
abbrev ruB2 (B : ByteArray) (p : Nat) : Except Jvm.ClassFile.DecodeError (Nat × Nat) := Jvm.ClassFile.Reader.runAt (Jvm.ClassFile.Reader.u2 : Jvm.ClassFile.Decoder Nat) B p
abbrev rsB1 (B : ByteArray) (p : Nat) : Except Jvm.ClassFile.DecodeError (Int × Nat) := Jvm.ClassFile.Reader.runAt (Jvm.ClassFile.Reader.s1 : Jvm.ClassFile.Decoder Int) B p
abbrev rsB2 (B : ByteArray) (p : Nat) : Except Jvm.ClassFile.DecodeError (Int × Nat) := Jvm.ClassFile.Reader.runAt (Jvm.ClassFile.Reader.s2 : Jvm.ClassFile.Decoder Int) B p
abbrev riB (B : ByteArray) (p : Nat) : Except Jvm.ClassFile.DecodeError (Instr × Nat) := Jvm.ClassFile.Reader.runAt (Jvm.ClassFile.Decoder.instr p) B p
def uO (B : ByteArray) (p v : Nat) : Prop := ruB B p = .ok (v, p + 1)
theorem eb_of {α β : Type} {M : Except Jvm.ClassFile.DecodeError β} {r : Except Jvm.ClassFile.DecodeError α} {f : α → Except Jvm.ClassFile.DecodeError β} {a : α} (hd : M = Except.bind r f) (h : r = .ok a) : M = f a := by
  rw [hd, h]
  rfl
theorem uO_of {B : ByteArray} {p v : Nat} {b : UInt8} (h : B.data.toList[p]? = some b) (hv : b.toNat = v) : uO B p v := by
  obtain ⟨hp, e⟩ := List.getElem?_eq_some_iff.mp h
  have hs : p < B.size := hp
  have e2 : B[p]'hs = b := e
  have e3 : ruB B p = (if h : p < B.size then (.ok ((B[p]'h).toNat, p + 1) : Except Jvm.ClassFile.DecodeError (Nat × Nat)) else .error (.truncated p)) := by
    show (dite (p < B.size) _ _ : Jvm.ClassFile.Decoder Nat) B p = _
    rw [dif_pos hs, dif_pos hs]
    rfl
  unfold uO
  rw [e3, dif_pos hs, e2, hv]
theorem u2_ok {B : ByteArray} {p x y : Nat} (h1 : uO B p x) (h2 : uO B (p + 1) y) : ruB2 B p = .ok (x * 256 + y, p + 1 + 1) := by
  have e := eb_of (M := ruB2 B p) (r := ruB B p) rfl h1
  have e2 := e.trans (eb_of (r := ruB B (p + 1)) rfl h2)
  exact e2.trans rfl
theorem s1_ok {B : ByteArray} {p x : Nat} (h1 : uO B p x) : rsB1 B p = .ok (Jvm.ClassFile.Reader.signed 8 x, p + 1) := by
  have e := eb_of (M := rsB1 B p) (r := ruB B p) rfl h1
  exact e.trans rfl
theorem s2_ok {B : ByteArray} {p x y : Nat} (h1 : uO B p x) (h2 : uO B (p + 1) y) : rsB2 B p = .ok (Jvm.ClassFile.Reader.signed 16 (x * 256 + y), p + 1 + 1) := by
  have e := eb_of (M := rsB2 B p) (r := ruB2 B p) rfl (u2_ok h1 h2)
  exact e.trans rfl
theorem dc_fin {B : ByteArray} {p nx n : Nat} {i : Instr} (h : riB B p = .ok (i, nx)) (hn : nx - p = n) : decode B p = .ok (i, n) := by
  have e := eb_of (M := decode B p) (r := riB B p) rfl h
  rw [← hn]
  exact e.trans rfl
theorem dx_42 (B : ByteArray) (p : Nat) (h : uO B p 42) : decode B p = .ok (.aload_n 0, 1) := by
  have e := eb_of (M := riB B p) (r := ruB B p) rfl h
  exact dc_fin (nx := p + 1) (e.trans rfl) (by omega)
theorem dx_180 (B : ByteArray) (p x y : Nat) (h : uO B p 180) (h1 : uO B (p + 1) x) (h2 : uO B (p + 1 + 1) y) : decode B p = .ok (.getfield (x * 256 + y), 3) := by
  have e := eb_of (M := riB B p) (r := ruB B p) rfl h
  have e2 := e.trans (eb_of (r := ruB2 B (p + 1)) rfl (u2_ok h1 h2))
  exact dc_fin (nx := p + 1 + 1 + 1) (e2.trans rfl) (by omega)
theorem dx_27 (B : ByteArray) (p : Nat) (h : uO B p 27) : decode B p = .ok (.iload_n 1, 1) := by
  have e := eb_of (M := riB B p) (r := ruB B p) rfl h
  exact dc_fin (nx := p + 1) (e.trans rfl) (by omega)
theorem dx_46 (B : ByteArray) (p : Nat) (h : uO B p 46) : decode B p = .ok (.iaload, 1) := by
  have e := eb_of (M := riB B p) (r := ruB B p) rfl h
  exact dc_fin (nx := p + 1) (e.trans rfl) (by omega)
theorem dx_182 (B : ByteArray) (p x y : Nat) (h : uO B p 182) (h1 : uO B (p + 1) x) (h2 : uO B (p + 1 + 1) y) : decode B p = .ok (.invokevirtual (x * 256 + y), 3) := by
  have e := eb_of (M := riB B p) (r := ruB B p) rfl h
  have e2 := e.trans (eb_of (r := ruB2 B (p + 1)) rfl (u2_ok h1 h2))
  exact dc_fin (nx := p + 1 + 1 + 1) (e2.trans rfl) (by omega)
theorem dx_172 (B : ByteArray) (p : Nat) (h : uO B p 172) : decode B p = .ok (.ireturn, 1) := by
  have e := eb_of (M := riB B p) (r := ruB B p) rfl h
  exact dc_fin (nx := p + 1) (e.trans rfl) (by omega)
theorem dx_29 (B : ByteArray) (p : Nat) (h : uO B p 29) : decode B p = .ok (.iload_n 3, 1) := by
  have e := eb_of (M := riB B p) (r := ruB B p) rfl h
  exact dc_fin (nx := p + 1) (e.trans rfl) (by omega)
theorem dx_21 (B : ByteArray) (p x y : Nat) (h : uO B p 21) (h1 : uO B (p + 1) x) (h2 : uO B (p + 1 + 1) y) : decode B p = .ok (.iload x, 2) := by
  have e := eb_of (M := riB B p) (r := ruB B p) rfl h
  have e2 := e.trans (eb_of (r := ruB B (p + 1)) rfl h1)
  exact dc_fin (nx := p + 1 + 1) (e2.trans rfl) (by omega)
theorem dx_28 (B : ByteArray) (p : Nat) (h : uO B p 28) : decode B p = .ok (.iload_n 2, 1) := by
  have e := eb_of (M := riB B p) (r := ruB B p) rfl h
  exact dc_fin (nx := p + 1) (e.trans rfl) (by omega)
theorem dx_3 (B : ByteArray) (p : Nat) (h : uO B p 3) : decode B p = .ok (.iconst 0, 1) := by
  have e := eb_of (M := riB B p) (r := ruB B p) rfl h
  exact dc_fin (nx := p + 1) (e.trans rfl) (by omega)
theorem dx_167 (B : ByteArray) (p x y : Nat) (h : uO B p 167) (h1 : uO B (p + 1) x) (h2 : uO B (p + 1 + 1) y) : decode B p = .ok (.goto (Jvm.ClassFile.Reader.signed 16 (x * 256 + y)), 3) := by
  have e := eb_of (M := riB B p) (r := ruB B p) rfl h
  have e2 := e.trans (eb_of (r := rsB2 B (p + 1)) rfl (s2_ok h1 h2))
  exact dc_fin (nx := p + 1 + 1 + 1) (e2.trans rfl) (by omega)
theorem dx_96 (B : ByteArray) (p : Nat) (h : uO B p 96) : decode B p = .ok (.iadd, 1) := by
  have e := eb_of (M := riB B p) (r := ruB B p) rfl h
  exact dc_fin (nx := p + 1) (e.trans rfl) (by omega)
theorem dx_4 (B : ByteArray) (p : Nat) (h : uO B p 4) : decode B p = .ok (.iconst 1, 1) := by
  have e := eb_of (M := riB B p) (r := ruB B p) rfl h
  exact dc_fin (nx := p + 1) (e.trans rfl) (by omega)
theorem dx_16 (B : ByteArray) (p x y : Nat) (h : uO B p 16) (h1 : uO B (p + 1) x) (h2 : uO B (p + 1 + 1) y) : decode B p = .ok (.bipush (Jvm.ClassFile.Reader.signed 8 x), 2) := by
  have e := eb_of (M := riB B p) (r := ruB B p) rfl h
  have e2 := e.trans (eb_of (r := rsB1 B (p + 1)) rfl (s1_ok h1))
  exact dc_fin (nx := p + 1 + 1) (e2.trans rfl) (by omega)
theorem dx_153 (B : ByteArray) (p x y : Nat) (h : uO B p 153) (h1 : uO B (p + 1) x) (h2 : uO B (p + 1 + 1) y) : decode B p = .ok (.ifCond .eq (Jvm.ClassFile.Reader.signed 16 (x * 256 + y)), 3) := by
  have e := eb_of (M := riB B p) (r := ruB B p) rfl h
  have e2 := e.trans (eb_of (r := rsB2 B (p + 1)) rfl (s2_ok h1 h2))
  exact dc_fin (nx := p + 1 + 1 + 1) (e2.trans rfl) (by omega)
theorem dx_181 (B : ByteArray) (p x y : Nat) (h : uO B p 181) (h1 : uO B (p + 1) x) (h2 : uO B (p + 1 + 1) y) : decode B p = .ok (.putfield (x * 256 + y), 3) := by
  have e := eb_of (M := riB B p) (r := ruB B p) rfl h
  have e2 := e.trans (eb_of (r := ruB2 B (p + 1)) rfl (u2_ok h1 h2))
  exact dc_fin (nx := p + 1 + 1 + 1) (e2.trans rfl) (by omega)
theorem dx_79 (B : ByteArray) (p : Nat) (h : uO B p 79) : decode B p = .ok (.iastore, 1) := by
  have e := eb_of (M := riB B p) (r := ruB B p) rfl h
  exact dc_fin (nx := p + 1) (e.trans rfl) (by omega)
theorem dx_162 (B : ByteArray) (p x y : Nat) (h : uO B p 162) (h1 : uO B (p + 1) x) (h2 : uO B (p + 1 + 1) y) : decode B p = .ok (.if_icmp .ge (Jvm.ClassFile.Reader.signed 16 (x * 256 + y)), 3) := by
  have e := eb_of (M := riB B p) (r := ruB B p) rfl h
  have e2 := e.trans (eb_of (r := rsB2 B (p + 1)) rfl (s2_ok h1 h2))
  exact dc_fin (nx := p + 1 + 1 + 1) (e2.trans rfl) (by omega)
theorem dx_184 (B : ByteArray) (p x y : Nat) (h : uO B p 184) (h1 : uO B (p + 1) x) (h2 : uO B (p + 1 + 1) y) : decode B p = .ok (.invokestatic (x * 256 + y), 3) := by
  have e := eb_of (M := riB B p) (r := ruB B p) rfl h
  have e2 := e.trans (eb_of (r := ruB2 B (p + 1)) rfl (u2_ok h1 h2))
  exact dc_fin (nx := p + 1 + 1 + 1) (e2.trans rfl) (by omega)
theorem dx_154 (B : ByteArray) (p x y : Nat) (h : uO B p 154) (h1 : uO B (p + 1) x) (h2 : uO B (p + 1 + 1) y) : decode B p = .ok (.ifCond .ne (Jvm.ClassFile.Reader.signed 16 (x * 256 + y)), 3) := by
  have e := eb_of (M := riB B p) (r := ruB B p) rfl h
  have e2 := e.trans (eb_of (r := rsB2 B (p + 1)) rfl (s2_ok h1 h2))
  exact dc_fin (nx := p + 1 + 1 + 1) (e2.trans rfl) (by omega)
theorem dx_2 (B : ByteArray) (p : Nat) (h : uO B p 2) : decode B p = .ok (.iconst (-1), 1) := by
  have e := eb_of (M := riB B p) (r := ruB B p) rfl h
  exact dc_fin (nx := p + 1) (e.trans rfl) (by omega)
theorem dx_54 (B : ByteArray) (p x y : Nat) (h : uO B p 54) (h1 : uO B (p + 1) x) (h2 : uO B (p + 1 + 1) y) : decode B p = .ok (.istore x, 2) := by
  have e := eb_of (M := riB B p) (r := ruB B p) rfl h
  have e2 := e.trans (eb_of (r := ruB B (p + 1)) rfl h1)
  exact dc_fin (nx := p + 1 + 1) (e2.trans rfl) (by omega)
theorem dx_17 (B : ByteArray) (p x y : Nat) (h : uO B p 17) (h1 : uO B (p + 1) x) (h2 : uO B (p + 1 + 1) y) : decode B p = .ok (.sipush (Jvm.ClassFile.Reader.signed 16 (x * 256 + y)), 3) := by
  have e := eb_of (M := riB B p) (r := ruB B p) rfl h
  have e2 := e.trans (eb_of (r := rsB2 B (p + 1)) rfl (s2_ok h1 h2))
  exact dc_fin (nx := p + 1 + 1 + 1) (e2.trans rfl) (by omega)
theorem dx_160 (B : ByteArray) (p x y : Nat) (h : uO B p 160) (h1 : uO B (p + 1) x) (h2 : uO B (p + 1 + 1) y) : decode B p = .ok (.if_icmp .ne (Jvm.ClassFile.Reader.signed 16 (x * 256 + y)), 3) := by
  have e := eb_of (M := riB B p) (r := ruB B p) rfl h
  have e2 := e.trans (eb_of (r := rsB2 B (p + 1)) rfl (s2_ok h1 h2))
  exact dc_fin (nx := p + 1 + 1 + 1) (e2.trans rfl) (by omega)
theorem dx_132 (B : ByteArray) (p x y : Nat) (h : uO B p 132) (h1 : uO B (p + 1) x) (h2 : uO B (p + 1 + 1) y) : decode B p = .ok (.iinc x (Jvm.ClassFile.Reader.signed 8 y), 3) := by
  have e := eb_of (M := riB B p) (r := ruB B p) rfl h
  have e2 := e.trans (eb_of (r := ruB B (p + 1)) rfl h1)
  have e3 := e2.trans (eb_of (r := rsB1 B (p + 1 + 1)) rfl (s1_ok h2))
  exact dc_fin (nx := p + 1 + 1 + 1) (e3.trans rfl) (by omega)
theorem dx_5 (B : ByteArray) (p : Nat) (h : uO B p 5) : decode B p = .ok (.iconst 2, 1) := by
  have e := eb_of (M := riB B p) (r := ruB B p) rfl h
  exact dc_fin (nx := p + 1) (e.trans rfl) (by omega)
theorem dx_177 (B : ByteArray) (p : Nat) (h : uO B p 177) : decode B p = .ok (.return_, 1) := by
  have e := eb_of (M := riB B p) (r := ruB B p) rfl h
  exact dc_fin (nx := p + 1) (e.trans rfl) (by omega)
theorem dx_87 (B : ByteArray) (p : Nat) (h : uO B p 87) : decode B p = .ok (.pop, 1) := by
  have e := eb_of (M := riB B p) (r := ruB B p) rfl h
  exact dc_fin (nx := p + 1) (e.trans rfl) (by omega)
theorem dx_6 (B : ByteArray) (p : Nat) (h : uO B p 6) : decode B p = .ok (.iconst 3, 1) := by
  have e := eb_of (M := riB B p) (r := ruB B p) rfl h
  exact dc_fin (nx := p + 1) (e.trans rfl) (by omega)
theorem dx_100 (B : ByteArray) (p : Nat) (h : uO B p 100) : decode B p = .ok (.isub, 1) := by
  have e := eb_of (M := riB B p) (r := ruB B p) rfl h
  exact dc_fin (nx := p + 1) (e.trans rfl) (by omega)
theorem dx_62 (B : ByteArray) (p : Nat) (h : uO B p 62) : decode B p = .ok (.istore_n 3, 1) := by
  have e := eb_of (M := riB B p) (r := ruB B p) rfl h
  exact dc_fin (nx := p + 1) (e.trans rfl) (by omega)
theorem dx_104 (B : ByteArray) (p : Nat) (h : uO B p 104) : decode B p = .ok (.imul, 1) := by
  have e := eb_of (M := riB B p) (r := ruB B p) rfl h
  exact dc_fin (nx := p + 1) (e.trans rfl) (by omega)
theorem dx_44 (B : ByteArray) (p : Nat) (h : uO B p 44) : decode B p = .ok (.aload_n 2, 1) := by
  have e := eb_of (M := riB B p) (r := ruB B p) rfl h
  exact dc_fin (nx := p + 1) (e.trans rfl) (by omega)
theorem dx_61 (B : ByteArray) (p : Nat) (h : uO B p 61) : decode B p = .ok (.istore_n 2, 1) := by
  have e := eb_of (M := riB B p) (r := ruB B p) rfl h
  exact dc_fin (nx := p + 1) (e.trans rfl) (by omega)
theorem dx_155 (B : ByteArray) (p x y : Nat) (h : uO B p 155) (h1 : uO B (p + 1) x) (h2 : uO B (p + 1 + 1) y) : decode B p = .ok (.ifCond .lt (Jvm.ClassFile.Reader.signed 16 (x * 256 + y)), 3) := by
  have e := eb_of (M := riB B p) (r := ruB B p) rfl h
  have e2 := e.trans (eb_of (r := rsB2 B (p + 1)) rfl (s2_ok h1 h2))
  exact dc_fin (nx := p + 1 + 1 + 1) (e2.trans rfl) (by omega)
theorem dx_159 (B : ByteArray) (p x y : Nat) (h : uO B p 159) (h1 : uO B (p + 1) x) (h2 : uO B (p + 1 + 1) y) : decode B p = .ok (.if_icmp .eq (Jvm.ClassFile.Reader.signed 16 (x * 256 + y)), 3) := by
  have e := eb_of (M := riB B p) (r := ruB B p) rfl h
  have e2 := e.trans (eb_of (r := rsB2 B (p + 1)) rfl (s2_ok h1 h2))
  exact dc_fin (nx := p + 1 + 1 + 1) (e2.trans rfl) (by omega)
theorem dx_89 (B : ByteArray) (p : Nat) (h : uO B p 89) : decode B p = .ok (.dup, 1) := by
  have e := eb_of (M := riB B p) (r := ruB B p) rfl h
  exact dc_fin (nx := p + 1) (e.trans rfl) (by omega)
theorem dx_43 (B : ByteArray) (p : Nat) (h : uO B p 43) : decode B p = .ok (.aload_n 1, 1) := by
  have e := eb_of (M := riB B p) (r := ruB B p) rfl h
  exact dc_fin (nx := p + 1) (e.trans rfl) (by omega)
theorem dx_7 (B : ByteArray) (p : Nat) (h : uO B p 7) : decode B p = .ok (.iconst 4, 1) := by
  have e := eb_of (M := riB B p) (r := ruB B p) rfl h
  exact dc_fin (nx := p + 1) (e.trans rfl) (by omega)
theorem dx_8 (B : ByteArray) (p : Nat) (h : uO B p 8) : decode B p = .ok (.iconst 5, 1) := by
  have e := eb_of (M := riB B p) (r := ruB B p) rfl h
  exact dc_fin (nx := p + 1) (e.trans rfl) (by omega)
theorem dx_161 (B : ByteArray) (p x y : Nat) (h : uO B p 161) (h1 : uO B (p + 1) x) (h2 : uO B (p + 1 + 1) y) : decode B p = .ok (.if_icmp .lt (Jvm.ClassFile.Reader.signed 16 (x * 256 + y)), 3) := by
  have e := eb_of (M := riB B p) (r := ruB B p) rfl h
  have e2 := e.trans (eb_of (r := rsB2 B (p + 1)) rfl (s2_ok h1 h2))
  exact dc_fin (nx := p + 1 + 1 + 1) (e2.trans rfl) (by omega)
theorem dx_156 (B : ByteArray) (p x y : Nat) (h : uO B p 156) (h1 : uO B (p + 1) x) (h2 : uO B (p + 1 + 1) y) : decode B p = .ok (.ifCond .ge (Jvm.ClassFile.Reader.signed 16 (x * 256 + y)), 3) := by
  have e := eb_of (M := riB B p) (r := ruB B p) rfl h
  have e2 := e.trans (eb_of (r := rsB2 B (p + 1)) rfl (s2_ok h1 h2))
  exact dc_fin (nx := p + 1 + 1 + 1) (e2.trans rfl) (by omega)
theorem dx_26 (B : ByteArray) (p : Nat) (h : uO B p 26) : decode B p = .ok (.iload_n 0, 1) := by
  have e := eb_of (M := riB B p) (r := ruB B p) rfl h
  exact dc_fin (nx := p + 1) (e.trans rfl) (by omega)
theorem dx_164 (B : ByteArray) (p x y : Nat) (h : uO B p 164) (h1 : uO B (p + 1) x) (h2 : uO B (p + 1 + 1) y) : decode B p = .ok (.if_icmp .le (Jvm.ClassFile.Reader.signed 16 (x * 256 + y)), 3) := by
  have e := eb_of (M := riB B p) (r := ruB B p) rfl h
  have e2 := e.trans (eb_of (r := rsB2 B (p + 1)) rfl (s2_ok h1 h2))
  exact dc_fin (nx := p + 1 + 1 + 1) (e2.trans rfl) (by omega)
theorem dx_163 (B : ByteArray) (p x y : Nat) (h : uO B p 163) (h1 : uO B (p + 1) x) (h2 : uO B (p + 1 + 1) y) : decode B p = .ok (.if_icmp .gt (Jvm.ClassFile.Reader.signed 16 (x * 256 + y)), 3) := by
  have e := eb_of (M := riB B p) (r := ruB B p) rfl h
  have e2 := e.trans (eb_of (r := rsB2 B (p + 1)) rfl (s2_ok h1 h2))
  exact dc_fin (nx := p + 1 + 1 + 1) (e2.trans rfl) (by omega)
theorem dx_92 (B : ByteArray) (p : Nat) (h : uO B p 92) : decode B p = .ok (.dup2, 1) := by
  have e := eb_of (M := riB B p) (r := ruB B p) rfl h
  exact dc_fin (nx := p + 1) (e.trans rfl) (by omega)
theorem dx_183 (B : ByteArray) (p x y : Nat) (h : uO B p 183) (h1 : uO B (p + 1) x) (h2 : uO B (p + 1 + 1) y) : decode B p = .ok (.invokespecial (x * 256 + y), 3) := by
  have e := eb_of (M := riB B p) (r := ruB B p) rfl h
  have e2 := e.trans (eb_of (r := ruB2 B (p + 1)) rfl (u2_ok h1 h2))
  exact dc_fin (nx := p + 1 + 1 + 1) (e2.trans rfl) (by omega)
theorem dx_108 (B : ByteArray) (p : Nat) (h : uO B p 108) : decode B p = .ok (.idiv, 1) := by
  have e := eb_of (M := riB B p) (r := ruB B p) rfl h
  exact dc_fin (nx := p + 1) (e.trans rfl) (by omega)
theorem dx_60 (B : ByteArray) (p : Nat) (h : uO B p 60) : decode B p = .ok (.istore_n 1, 1) := by
  have e := eb_of (M := riB B p) (r := ruB B p) rfl h
  exact dc_fin (nx := p + 1) (e.trans rfl) (by omega)
theorem dx_51 (B : ByteArray) (p : Nat) (h : uO B p 51) : decode B p = .ok (.baload, 1) := by
  have e := eb_of (M := riB B p) (r := ruB B p) rfl h
  exact dc_fin (nx := p + 1) (e.trans rfl) (by omega)
theorem dx_18 (B : ByteArray) (p x y : Nat) (h : uO B p 18) (h1 : uO B (p + 1) x) (h2 : uO B (p + 1 + 1) y) : decode B p = .ok (.ldc x, 2) := by
  have e := eb_of (M := riB B p) (r := ruB B p) rfl h
  have e2 := e.trans (eb_of (r := ruB B (p + 1)) rfl h1)
  exact dc_fin (nx := p + 1 + 1) (e2.trans rfl) (by omega)
theorem dx_20 (B : ByteArray) (p x y : Nat) (h : uO B p 20) (h1 : uO B (p + 1) x) (h2 : uO B (p + 1 + 1) y) : decode B p = .ok (.ldc2_w (x * 256 + y), 3) := by
  have e := eb_of (M := riB B p) (r := ruB B p) rfl h
  have e2 := e.trans (eb_of (r := ruB2 B (p + 1)) rfl (u2_ok h1 h2))
  exact dc_fin (nx := p + 1 + 1 + 1) (e2.trans rfl) (by omega)
theorem dx_133 (B : ByteArray) (p : Nat) (h : uO B p 133) : decode B p = .ok (.i2l, 1) := by
  have e := eb_of (M := riB B p) (r := ruB B p) rfl h
  exact dc_fin (nx := p + 1) (e.trans rfl) (by omega)
theorem dx_84 (B : ByteArray) (p : Nat) (h : uO B p 84) : decode B p = .ok (.bastore, 1) := by
  have e := eb_of (M := riB B p) (r := ruB B p) rfl h
  exact dc_fin (nx := p + 1) (e.trans rfl) (by omega)
theorem dx_112 (B : ByteArray) (p : Nat) (h : uO B p 112) : decode B p = .ok (.irem, 1) := by
  have e := eb_of (M := riB B p) (r := ruB B p) rfl h
  exact dc_fin (nx := p + 1) (e.trans rfl) (by omega)
theorem dx_136 (B : ByteArray) (p : Nat) (h : uO B p 136) : decode B p = .ok (.l2i, 1) := by
  have e := eb_of (M := riB B p) (r := ruB B p) rfl h
  exact dc_fin (nx := p + 1) (e.trans rfl) (by omega)
theorem dx_158 (B : ByteArray) (p x y : Nat) (h : uO B p 158) (h1 : uO B (p + 1) x) (h2 : uO B (p + 1 + 1) y) : decode B p = .ok (.ifCond .le (Jvm.ClassFile.Reader.signed 16 (x * 256 + y)), 3) := by
  have e := eb_of (M := riB B p) (r := ruB B p) rfl h
  have e2 := e.trans (eb_of (r := rsB2 B (p + 1)) rfl (s2_ok h1 h2))
  exact dc_fin (nx := p + 1 + 1 + 1) (e2.trans rfl) (by omega)
theorem dx_126 (B : ByteArray) (p : Nat) (h : uO B p 126) : decode B p = .ok (.iand, 1) := by
  have e := eb_of (M := riB B p) (r := ruB B p) rfl h
  exact dc_fin (nx := p + 1) (e.trans rfl) (by omega)
theorem dx_148 (B : ByteArray) (p : Nat) (h : uO B p 148) : decode B p = .ok (.lcmp, 1) := by
  have e := eb_of (M := riB B p) (r := ruB B p) rfl h
  exact dc_fin (nx := p + 1) (e.trans rfl) (by omega)
theorem dx_187 (B : ByteArray) (p x y : Nat) (h : uO B p 187) (h1 : uO B (p + 1) x) (h2 : uO B (p + 1 + 1) y) : decode B p = .ok (.new (x * 256 + y), 3) := by
  have e := eb_of (M := riB B p) (r := ruB B p) rfl h
  have e2 := e.trans (eb_of (r := ruB2 B (p + 1)) rfl (u2_ok h1 h2))
  exact dc_fin (nx := p + 1 + 1 + 1) (e2.trans rfl) (by omega)
theorem dx_47 (B : ByteArray) (p : Nat) (h : uO B p 47) : decode B p = .ok (.laload, 1) := by
  have e := eb_of (M := riB B p) (r := ruB B p) rfl h
  exact dc_fin (nx := p + 1) (e.trans rfl) (by omega)
theorem dx_19 (B : ByteArray) (p x y : Nat) (h : uO B p 19) (h1 : uO B (p + 1) x) (h2 : uO B (p + 1 + 1) y) : decode B p = .ok (.ldc_w (x * 256 + y), 3) := by
  have e := eb_of (M := riB B p) (r := ruB B p) rfl h
  have e2 := e.trans (eb_of (r := ruB2 B (p + 1)) rfl (u2_ok h1 h2))
  exact dc_fin (nx := p + 1 + 1 + 1) (e2.trans rfl) (by omega)
theorem dx_9 (B : ByteArray) (p : Nat) (h : uO B p 9) : decode B p = .ok (.lconst 0, 1) := by
  have e := eb_of (M := riB B p) (r := ruB B p) rfl h
  exact dc_fin (nx := p + 1) (e.trans rfl) (by omega)
theorem dx_22 (B : ByteArray) (p x y : Nat) (h : uO B p 22) (h1 : uO B (p + 1) x) (h2 : uO B (p + 1 + 1) y) : decode B p = .ok (.lload x, 2) := by
  have e := eb_of (M := riB B p) (r := ruB B p) rfl h
  have e2 := e.trans (eb_of (r := ruB B (p + 1)) rfl h1)
  exact dc_fin (nx := p + 1 + 1) (e2.trans rfl) (by omega)
theorem dx_173 (B : ByteArray) (p : Nat) (h : uO B p 173) : decode B p = .ok (.lreturn, 1) := by
  have e := eb_of (M := riB B p) (r := ruB B p) rfl h
  exact dc_fin (nx := p + 1) (e.trans rfl) (by omega)
theorem dx_122 (B : ByteArray) (p : Nat) (h : uO B p 122) : decode B p = .ok (.ishr, 1) := by
  have e := eb_of (M := riB B p) (r := ruB B p) rfl h
  exact dc_fin (nx := p + 1) (e.trans rfl) (by omega)
theorem dx_33 (B : ByteArray) (p : Nat) (h : uO B p 33) : decode B p = .ok (.lload_n 3, 1) := by
  have e := eb_of (M := riB B p) (r := ruB B p) rfl h
  exact dc_fin (nx := p + 1) (e.trans rfl) (by omega)
theorem dx_190 (B : ByteArray) (p : Nat) (h : uO B p 190) : decode B p = .ok (.arraylength, 1) := by
  have e := eb_of (M := riB B p) (r := ruB B p) rfl h
  exact dc_fin (nx := p + 1) (e.trans rfl) (by omega)
theorem dx_120 (B : ByteArray) (p : Nat) (h : uO B p 120) : decode B p = .ok (.ishl, 1) := by
  have e := eb_of (M := riB B p) (r := ruB B p) rfl h
  exact dc_fin (nx := p + 1) (e.trans rfl) (by omega)
theorem dx_80 (B : ByteArray) (p : Nat) (h : uO B p 80) : decode B p = .ok (.lastore, 1) := by
  have e := eb_of (M := riB B p) (r := ruB B p) rfl h
  exact dc_fin (nx := p + 1) (e.trans rfl) (by omega)
theorem dx_128 (B : ByteArray) (p : Nat) (h : uO B p 128) : decode B p = .ok (.ior, 1) := by
  have e := eb_of (M := riB B p) (r := ruB B p) rfl h
  exact dc_fin (nx := p + 1) (e.trans rfl) (by omega)
theorem dx_130 (B : ByteArray) (p : Nat) (h : uO B p 130) : decode B p = .ok (.ixor, 1) := by
  have e := eb_of (M := riB B p) (r := ruB B p) rfl h
  exact dc_fin (nx := p + 1) (e.trans rfl) (by omega)
theorem dx_97 (B : ByteArray) (p : Nat) (h : uO B p 97) : decode B p = .ok (.ladd, 1) := by
  have e := eb_of (M := riB B p) (r := ruB B p) rfl h
  exact dc_fin (nx := p + 1) (e.trans rfl) (by omega)
theorem dx_31 (B : ByteArray) (p : Nat) (h : uO B p 31) : decode B p = .ok (.lload_n 1, 1) := by
  have e := eb_of (M := riB B p) (r := ruB B p) rfl h
  exact dc_fin (nx := p + 1) (e.trans rfl) (by omega)
theorem dx_145 (B : ByteArray) (p : Nat) (h : uO B p 145) : decode B p = .ok (.i2b, 1) := by
  have e := eb_of (M := riB B p) (r := ruB B p) rfl h
  exact dc_fin (nx := p + 1) (e.trans rfl) (by omega)
theorem dx_30 (B : ByteArray) (p : Nat) (h : uO B p 30) : decode B p = .ok (.lload_n 0, 1) := by
  have e := eb_of (M := riB B p) (r := ruB B p) rfl h
  exact dc_fin (nx := p + 1) (e.trans rfl) (by omega)
theorem dx_32 (B : ByteArray) (p : Nat) (h : uO B p 32) : decode B p = .ok (.lload_n 2, 1) := by
  have e := eb_of (M := riB B p) (r := ruB B p) rfl h
  exact dc_fin (nx := p + 1) (e.trans rfl) (by omega)
theorem dx_45 (B : ByteArray) (p : Nat) (h : uO B p 45) : decode B p = .ok (.aload_n 3, 1) := by
  have e := eb_of (M := riB B p) (r := ruB B p) rfl h
  exact dc_fin (nx := p + 1) (e.trans rfl) (by omega)
theorem dx_127 (B : ByteArray) (p : Nat) (h : uO B p 127) : decode B p = .ok (.land, 1) := by
  have e := eb_of (M := riB B p) (r := ruB B p) rfl h
  exact dc_fin (nx := p + 1) (e.trans rfl) (by omega)
theorem dx_121 (B : ByteArray) (p : Nat) (h : uO B p 121) : decode B p = .ok (.lshl, 1) := by
  have e := eb_of (M := riB B p) (r := ruB B p) rfl h
  exact dc_fin (nx := p + 1) (e.trans rfl) (by omega)
theorem dx_77 (B : ByteArray) (p : Nat) (h : uO B p 77) : decode B p = .ok (.astore_n 2, 1) := by
  have e := eb_of (M := riB B p) (r := ruB B p) rfl h
  exact dc_fin (nx := p + 1) (e.trans rfl) (by omega)
theorem dx_116 (B : ByteArray) (p : Nat) (h : uO B p 116) : decode B p = .ok (.ineg, 1) := by
  have e := eb_of (M := riB B p) (r := ruB B p) rfl h
  exact dc_fin (nx := p + 1) (e.trans rfl) (by omega)
theorem dx_176 (B : ByteArray) (p : Nat) (h : uO B p 176) : decode B p = .ok (.areturn, 1) := by
  have e := eb_of (M := riB B p) (r := ruB B p) rfl h
  exact dc_fin (nx := p + 1) (e.trans rfl) (by omega)
theorem dx_157 (B : ByteArray) (p x y : Nat) (h : uO B p 157) (h1 : uO B (p + 1) x) (h2 : uO B (p + 1 + 1) y) : decode B p = .ok (.ifCond .gt (Jvm.ClassFile.Reader.signed 16 (x * 256 + y)), 3) := by
  have e := eb_of (M := riB B p) (r := ruB B p) rfl h
  have e2 := e.trans (eb_of (r := rsB2 B (p + 1)) rfl (s2_ok h1 h2))
  exact dc_fin (nx := p + 1 + 1 + 1) (e2.trans rfl) (by omega)
theorem dx_147 (B : ByteArray) (p : Nat) (h : uO B p 147) : decode B p = .ok (.i2s, 1) := by
  have e := eb_of (M := riB B p) (r := ruB B p) rfl h
  exact dc_fin (nx := p + 1) (e.trans rfl) (by omega)
theorem dx_10 (B : ByteArray) (p : Nat) (h : uO B p 10) : decode B p = .ok (.lconst 1, 1) := by
  have e := eb_of (M := riB B p) (r := ruB B p) rfl h
  exact dc_fin (nx := p + 1) (e.trans rfl) (by omega)
theorem dx_66 (B : ByteArray) (p : Nat) (h : uO B p 66) : decode B p = .ok (.lstore_n 3, 1) := by
  have e := eb_of (M := riB B p) (r := ruB B p) rfl h
  exact dc_fin (nx := p + 1) (e.trans rfl) (by omega)
theorem dx_129 (B : ByteArray) (p : Nat) (h : uO B p 129) : decode B p = .ok (.lor, 1) := by
  have e := eb_of (M := riB B p) (r := ruB B p) rfl h
  exact dc_fin (nx := p + 1) (e.trans rfl) (by omega)
theorem dx_88 (B : ByteArray) (p : Nat) (h : uO B p 88) : decode B p = .ok (.pop2, 1) := by
  have e := eb_of (M := riB B p) (r := ruB B p) rfl h
  exact dc_fin (nx := p + 1) (e.trans rfl) (by omega)
theorem dx_189 (B : ByteArray) (p x y : Nat) (h : uO B p 189) (h1 : uO B (p + 1) x) (h2 : uO B (p + 1 + 1) y) : decode B p = .ok (.anewarray (x * 256 + y), 3) := by
  have e := eb_of (M := riB B p) (r := ruB B p) rfl h
  have e2 := e.trans (eb_of (r := ruB2 B (p + 1)) rfl (u2_ok h1 h2))
  exact dc_fin (nx := p + 1 + 1 + 1) (e2.trans rfl) (by omega)
theorem dx_123 (B : ByteArray) (p : Nat) (h : uO B p 123) : decode B p = .ok (.lshr, 1) := by
  have e := eb_of (M := riB B p) (r := ruB B p) rfl h
  exact dc_fin (nx := p + 1) (e.trans rfl) (by omega)
theorem dx_83 (B : ByteArray) (p : Nat) (h : uO B p 83) : decode B p = .ok (.aastore, 1) := by
  have e := eb_of (M := riB B p) (r := ruB B p) rfl h
  exact dc_fin (nx := p + 1) (e.trans rfl) (by omega)
theorem dx_50 (B : ByteArray) (p : Nat) (h : uO B p 50) : decode B p = .ok (.aaload, 1) := by
  have e := eb_of (M := riB B p) (r := ruB B p) rfl h
  exact dc_fin (nx := p + 1) (e.trans rfl) (by omega)
theorem dx_1 (B : ByteArray) (p : Nat) (h : uO B p 1) : decode B p = .ok (.aconst_null, 1) := by
  have e := eb_of (M := riB B p) (r := ruB B p) rfl h
  exact dc_fin (nx := p + 1) (e.trans rfl) (by omega)
theorem dx_199 (B : ByteArray) (p x y : Nat) (h : uO B p 199) (h1 : uO B (p + 1) x) (h2 : uO B (p + 1 + 1) y) : decode B p = .ok (.ifnonnull (Jvm.ClassFile.Reader.signed 16 (x * 256 + y)), 3) := by
  have e := eb_of (M := riB B p) (r := ruB B p) rfl h
  have e2 := e.trans (eb_of (r := rsB2 B (p + 1)) rfl (s2_ok h1 h2))
  exact dc_fin (nx := p + 1 + 1 + 1) (e2.trans rfl) (by omega)
theorem dx_55 (B : ByteArray) (p x y : Nat) (h : uO B p 55) (h1 : uO B (p + 1) x) (h2 : uO B (p + 1 + 1) y) : decode B p = .ok (.lstore x, 2) := by
  have e := eb_of (M := riB B p) (r := ruB B p) rfl h
  have e2 := e.trans (eb_of (r := ruB B (p + 1)) rfl h1)
  exact dc_fin (nx := p + 1 + 1) (e2.trans rfl) (by omega)
theorem dx_105 (B : ByteArray) (p : Nat) (h : uO B p 105) : decode B p = .ok (.lmul, 1) := by
  have e := eb_of (M := riB B p) (r := ruB B p) rfl h
  exact dc_fin (nx := p + 1) (e.trans rfl) (by omega)
theorem dx_101 (B : ByteArray) (p : Nat) (h : uO B p 101) : decode B p = .ok (.lsub, 1) := by
  have e := eb_of (M := riB B p) (r := ruB B p) rfl h
  exact dc_fin (nx := p + 1) (e.trans rfl) (by omega)
theorem dx_76 (B : ByteArray) (p : Nat) (h : uO B p 76) : decode B p = .ok (.astore_n 1, 1) := by
  have e := eb_of (M := riB B p) (r := ruB B p) rfl h
  exact dc_fin (nx := p + 1) (e.trans rfl) (by omega)
def oneT : List (Nat × Instr) := [(42, .aload_n 0), (27, .iload_n 1), (46, .iaload), (172, .ireturn), (29, .iload_n 3), (28, .iload_n 2), (3, .iconst 0), (96, .iadd), (4, .iconst 1), (79, .iastore), (2, .iconst (-1)), (5, .iconst 2), (177, .return_), (87, .pop), (6, .iconst 3), (100, .isub), (62, .istore_n 3), (104, .imul), (44, .aload_n 2), (61, .istore_n 2), (89, .dup), (43, .aload_n 1), (7, .iconst 4), (8, .iconst 5), (26, .iload_n 0), (92, .dup2), (108, .idiv), (60, .istore_n 1), (51, .baload), (133, .i2l), (84, .bastore), (112, .irem), (136, .l2i), (126, .iand), (148, .lcmp), (47, .laload), (9, .lconst 0), (173, .lreturn), (122, .ishr), (33, .lload_n 3), (190, .arraylength), (120, .ishl), (80, .lastore), (128, .ior), (130, .ixor), (97, .ladd), (31, .lload_n 1), (145, .i2b), (30, .lload_n 0), (32, .lload_n 2), (45, .aload_n 3), (127, .land), (121, .lshl), (77, .astore_n 2), (116, .ineg), (176, .areturn), (147, .i2s), (10, .lconst 1), (66, .lstore_n 3), (129, .lor), (88, .pop2), (123, .lshr), (83, .aastore), (50, .aaload), (1, .aconst_null), (105, .lmul), (101, .lsub), (76, .astore_n 1)]
theorem oneT_ok : ∀ e ∈ oneT, ∀ (B : ByteArray) (p : Nat), uO B p e.1 → decode B p = .ok (e.2, 1) := List.forall_mem_cons.mpr ⟨dx_42, List.forall_mem_cons.mpr ⟨dx_27, List.forall_mem_cons.mpr ⟨dx_46, List.forall_mem_cons.mpr ⟨dx_172, List.forall_mem_cons.mpr ⟨dx_29, List.forall_mem_cons.mpr ⟨dx_28, List.forall_mem_cons.mpr ⟨dx_3, List.forall_mem_cons.mpr ⟨dx_96, List.forall_mem_cons.mpr ⟨dx_4, List.forall_mem_cons.mpr ⟨dx_79, List.forall_mem_cons.mpr ⟨dx_2, List.forall_mem_cons.mpr ⟨dx_5, List.forall_mem_cons.mpr ⟨dx_177, List.forall_mem_cons.mpr ⟨dx_87, List.forall_mem_cons.mpr ⟨dx_6, List.forall_mem_cons.mpr ⟨dx_100, List.forall_mem_cons.mpr ⟨dx_62, List.forall_mem_cons.mpr ⟨dx_104, List.forall_mem_cons.mpr ⟨dx_44, List.forall_mem_cons.mpr ⟨dx_61, List.forall_mem_cons.mpr ⟨dx_89, List.forall_mem_cons.mpr ⟨dx_43, List.forall_mem_cons.mpr ⟨dx_7, List.forall_mem_cons.mpr ⟨dx_8, List.forall_mem_cons.mpr ⟨dx_26, List.forall_mem_cons.mpr ⟨dx_92, List.forall_mem_cons.mpr ⟨dx_108, List.forall_mem_cons.mpr ⟨dx_60, List.forall_mem_cons.mpr ⟨dx_51, List.forall_mem_cons.mpr ⟨dx_133, List.forall_mem_cons.mpr ⟨dx_84, List.forall_mem_cons.mpr ⟨dx_112, List.forall_mem_cons.mpr ⟨dx_136, List.forall_mem_cons.mpr ⟨dx_126, List.forall_mem_cons.mpr ⟨dx_148, List.forall_mem_cons.mpr ⟨dx_47, List.forall_mem_cons.mpr ⟨dx_9, List.forall_mem_cons.mpr ⟨dx_173, List.forall_mem_cons.mpr ⟨dx_122, List.forall_mem_cons.mpr ⟨dx_33, List.forall_mem_cons.mpr ⟨dx_190, List.forall_mem_cons.mpr ⟨dx_120, List.forall_mem_cons.mpr ⟨dx_80, List.forall_mem_cons.mpr ⟨dx_128, List.forall_mem_cons.mpr ⟨dx_130, List.forall_mem_cons.mpr ⟨dx_97, List.forall_mem_cons.mpr ⟨dx_31, List.forall_mem_cons.mpr ⟨dx_145, List.forall_mem_cons.mpr ⟨dx_30, List.forall_mem_cons.mpr ⟨dx_32, List.forall_mem_cons.mpr ⟨dx_45, List.forall_mem_cons.mpr ⟨dx_127, List.forall_mem_cons.mpr ⟨dx_121, List.forall_mem_cons.mpr ⟨dx_77, List.forall_mem_cons.mpr ⟨dx_116, List.forall_mem_cons.mpr ⟨dx_176, List.forall_mem_cons.mpr ⟨dx_147, List.forall_mem_cons.mpr ⟨dx_10, List.forall_mem_cons.mpr ⟨dx_66, List.forall_mem_cons.mpr ⟨dx_129, List.forall_mem_cons.mpr ⟨dx_88, List.forall_mem_cons.mpr ⟨dx_123, List.forall_mem_cons.mpr ⟨dx_83, List.forall_mem_cons.mpr ⟨dx_50, List.forall_mem_cons.mpr ⟨dx_1, List.forall_mem_cons.mpr ⟨dx_105, List.forall_mem_cons.mpr ⟨dx_101, List.forall_mem_cons.mpr ⟨dx_76, (fun _ h => absurd h List.not_mem_nil)⟩⟩⟩⟩⟩⟩⟩⟩⟩⟩⟩⟩⟩⟩⟩⟩⟩⟩⟩⟩⟩⟩⟩⟩⟩⟩⟩⟩⟩⟩⟩⟩⟩⟩⟩⟩⟩⟩⟩⟩⟩⟩⟩⟩⟩⟩⟩⟩⟩⟩⟩⟩⟩⟩⟩⟩⟩⟩⟩⟩⟩⟩⟩⟩⟩⟩⟩⟩
def thrT : List (Nat × (Nat → Nat → Instr × Nat)) := [(180, fun x y => (.getfield (x * 256 + y), 3)), (182, fun x y => (.invokevirtual (x * 256 + y), 3)), (21, fun x _ => (.iload x, 2)), (167, fun x y => (.goto (Jvm.ClassFile.Reader.signed 16 (x * 256 + y)), 3)), (16, fun x _ => (.bipush (Jvm.ClassFile.Reader.signed 8 x), 2)), (153, fun x y => (.ifCond .eq (Jvm.ClassFile.Reader.signed 16 (x * 256 + y)), 3)), (181, fun x y => (.putfield (x * 256 + y), 3)), (162, fun x y => (.if_icmp .ge (Jvm.ClassFile.Reader.signed 16 (x * 256 + y)), 3)), (184, fun x y => (.invokestatic (x * 256 + y), 3)), (154, fun x y => (.ifCond .ne (Jvm.ClassFile.Reader.signed 16 (x * 256 + y)), 3)), (54, fun x _ => (.istore x, 2)), (17, fun x y => (.sipush (Jvm.ClassFile.Reader.signed 16 (x * 256 + y)), 3)), (160, fun x y => (.if_icmp .ne (Jvm.ClassFile.Reader.signed 16 (x * 256 + y)), 3)), (132, fun x y => (.iinc x (Jvm.ClassFile.Reader.signed 8 y), 3)), (155, fun x y => (.ifCond .lt (Jvm.ClassFile.Reader.signed 16 (x * 256 + y)), 3)), (159, fun x y => (.if_icmp .eq (Jvm.ClassFile.Reader.signed 16 (x * 256 + y)), 3)), (161, fun x y => (.if_icmp .lt (Jvm.ClassFile.Reader.signed 16 (x * 256 + y)), 3)), (156, fun x y => (.ifCond .ge (Jvm.ClassFile.Reader.signed 16 (x * 256 + y)), 3)), (164, fun x y => (.if_icmp .le (Jvm.ClassFile.Reader.signed 16 (x * 256 + y)), 3)), (163, fun x y => (.if_icmp .gt (Jvm.ClassFile.Reader.signed 16 (x * 256 + y)), 3)), (183, fun x y => (.invokespecial (x * 256 + y), 3)), (18, fun x _ => (.ldc x, 2)), (20, fun x y => (.ldc2_w (x * 256 + y), 3)), (158, fun x y => (.ifCond .le (Jvm.ClassFile.Reader.signed 16 (x * 256 + y)), 3)), (187, fun x y => (.new (x * 256 + y), 3)), (19, fun x y => (.ldc_w (x * 256 + y), 3)), (22, fun x _ => (.lload x, 2)), (157, fun x y => (.ifCond .gt (Jvm.ClassFile.Reader.signed 16 (x * 256 + y)), 3)), (189, fun x y => (.anewarray (x * 256 + y), 3)), (199, fun x y => (.ifnonnull (Jvm.ClassFile.Reader.signed 16 (x * 256 + y)), 3)), (55, fun x _ => (.lstore x, 2))]
theorem thrT_ok : ∀ e ∈ thrT, ∀ (B : ByteArray) (p x y : Nat), uO B p e.1 → uO B (p + 1) x → uO B (p + 1 + 1) y → decode B p = .ok (e.2 x y) := List.forall_mem_cons.mpr ⟨dx_180, List.forall_mem_cons.mpr ⟨dx_182, List.forall_mem_cons.mpr ⟨dx_21, List.forall_mem_cons.mpr ⟨dx_167, List.forall_mem_cons.mpr ⟨dx_16, List.forall_mem_cons.mpr ⟨dx_153, List.forall_mem_cons.mpr ⟨dx_181, List.forall_mem_cons.mpr ⟨dx_162, List.forall_mem_cons.mpr ⟨dx_184, List.forall_mem_cons.mpr ⟨dx_154, List.forall_mem_cons.mpr ⟨dx_54, List.forall_mem_cons.mpr ⟨dx_17, List.forall_mem_cons.mpr ⟨dx_160, List.forall_mem_cons.mpr ⟨dx_132, List.forall_mem_cons.mpr ⟨dx_155, List.forall_mem_cons.mpr ⟨dx_159, List.forall_mem_cons.mpr ⟨dx_161, List.forall_mem_cons.mpr ⟨dx_156, List.forall_mem_cons.mpr ⟨dx_164, List.forall_mem_cons.mpr ⟨dx_163, List.forall_mem_cons.mpr ⟨dx_183, List.forall_mem_cons.mpr ⟨dx_18, List.forall_mem_cons.mpr ⟨dx_20, List.forall_mem_cons.mpr ⟨dx_158, List.forall_mem_cons.mpr ⟨dx_187, List.forall_mem_cons.mpr ⟨dx_19, List.forall_mem_cons.mpr ⟨dx_22, List.forall_mem_cons.mpr ⟨dx_157, List.forall_mem_cons.mpr ⟨dx_189, List.forall_mem_cons.mpr ⟨dx_199, List.forall_mem_cons.mpr ⟨dx_55, (fun _ h => absurd h List.not_mem_nil)⟩⟩⟩⟩⟩⟩⟩⟩⟩⟩⟩⟩⟩⟩⟩⟩⟩⟩⟩⟩⟩⟩⟩⟩⟩⟩⟩⟩⟩⟩⟩
def dec1 (a : Nat) : Option Instr := (oneT.find? (fun e => Nat.beq e.1 a)).map (fun e => e.2)
def dec3 (a x y : Nat) : Option (Instr × Nat) := (thrT.find? (fun e => Nat.beq e.1 a)).map (fun e => e.2 x y)
def decR (a : Nat) : List Nat → Option (Instr × Nat)
  | x :: y :: _ => dec3 a x y
  | _ => none
def decL : List Nat → Option (Instr × Nat)
  | [] => none
  | a :: r => match dec1 a with
    | some i => some (i, 1)
    | none => decR a r
theorem dec1_ok {B : ByteArray} {p a : Nat} {i : Instr} (h : dec1 a = some i) (h0 : uO B p a) : decode B p = .ok (i, 1) := by
  unfold dec1 at h
  cases e : oneT.find? (fun e => Nat.beq e.1 a) with
  | none =>
    rw [e] at h
    cases h
  | some z =>
    rw [e] at h
    have hb := List.find?_some e
    have hb : Nat.beq z.1 a = true := hb
    have hz := oneT_ok z (List.mem_of_find?_eq_some e) B p (by rw [Nat.eq_of_beq_eq_true hb]; exact h0)
    rw [hz, ← Option.some.inj h]
theorem dec3_ok {B : ByteArray} {p a x y : Nat} {q : Instr × Nat} (h : dec3 a x y = some q) (h0 : uO B p a) (h1 : uO B (p + 1) x) (h2 : uO B (p + 1 + 1) y) : decode B p = .ok q := by
  unfold dec3 at h
  cases e : thrT.find? (fun e => Nat.beq e.1 a) with
  | none =>
    rw [e] at h
    cases h
  | some z =>
    rw [e] at h
    have hb := List.find?_some e
    have hb : Nat.beq z.1 a = true := hb
    have hz := thrT_ok z (List.mem_of_find?_eq_some e) B p x y (by rw [Nat.eq_of_beq_eq_true hb]; exact h0) h1 h2
    rw [hz, ← Option.some.inj h]
theorem decR_ok {B : ByteArray} {p a : Nat} {q : Instr × Nat} (h0 : uO B p a) : ∀ {r : List Nat}, (∀ i v, (a :: r)[i]? = some v → uO B (p + i) v) → decR a r = some q → decode B p = .ok q
  | [], _, h => by cases h
  | [_], _, h => by cases h
  | x :: y :: r, hp, h => dec3_ok h h0 (hp 1 x rfl) (hp 2 y rfl)
theorem decL_ok {B : ByteArray} {p : Nat} {q : Instr × Nat} : ∀ {L : List Nat}, (∀ i v, L[i]? = some v → uO B (p + i) v) → decL L = some q → decode B p = .ok q
  | [], _, h => by cases h
  | a :: r, hp, h => by
    have h0 : uO B p a := hp 0 a rfl
    have h' : (match dec1 a with | some i => some (i, 1) | none => decR a r) = some q := h
    cases e : dec1 a with
    | some i =>
      rw [e] at h'
      rw [dec1_ok e h0]
      exact congrArg Except.ok (Option.some.inj h')
    | none =>
      rw [e] at h'
      exact decR_ok h0 hp h'
def pfx : List Nat → List UInt8 → Bool
  | [], _ => true
  | _ :: _, [] => false
  | c :: cs, b :: bs => Nat.beq b.toNat c && pfx cs bs
theorem pfx_get : ∀ {C : List Nat} {l : List UInt8}, pfx C l = true → ∀ {i v : Nat}, C[i]? = some v → ∃ b : UInt8, l[i]? = some b ∧ b.toNat = v
  | [], _, _, i, v, e => by
    rw [List.getElem?_nil] at e
    cases e
  | _ :: _, [], h, _, _, _ => by cases h
  | c :: cs, b :: bs, h, i, v, e => by
    have h' : (Nat.beq b.toNat c && pfx cs bs) = true := h
    simp only [Bool.and_eq_true] at h'
    cases i with
    | zero =>
      have e' : some c = some v := e
      exact ⟨b, rfl, (Nat.eq_of_beq_eq_true h'.1).trans (Option.some.inj e')⟩
    | succ i =>
      have e' : cs[i]? = some v := e
      obtain ⟨b2, g1, g2⟩ := pfx_get h'.2 e'
      exact ⟨b2, g1, g2⟩
noncomputable def okFb (co k : Nat) (C : List Nat) (e : mIn) : Bool := Nat.ble k e.1 && (match decL (C.drop (e.1 - k)) with
  | some q => (qI q.1 e.2.1 || decide (q.1 = e.2.1)) && decide (q.2 = e.2.2.1) && (decide (e.2.2.1 = ilen e.2.1) || decide (ilen e.2.1 = 0)) && okL co e
  | none => false)
theorem okFb_ok {co k : Nat} {B : ByteArray} {C : List Nat} {e : mIn} (hp : pfx C (B.data.toList.drop k) = true) (h : okFb co k C e = true) : okE co B e = true := by
  unfold okFb at h
  rw [Bool.and_eq_true] at h
  obtain ⟨h1, h2⟩ := h
  have hk : k ≤ e.1 := Nat.le_of_ble_eq_true h1
  cases eq : decL (C.drop (e.1 - k)) with
  | none =>
    rw [eq] at h2
    cases h2
  | some q =>
    rw [eq] at h2
    have hd : decode B e.1 = .ok q := by
      refine decL_ok (fun i v hv => ?_) eq
      rw [List.getElem?_drop] at hv
      obtain ⟨b, hb, ev⟩ := pfx_get hp hv
      rw [List.getElem?_drop, show k + (e.1 - k + i) = e.1 + i by omega] at hb
      exact uO_of hb ev
    unfold okE
    rw [hd]
    exact h2
theorem all_okFb {co k : Nat} {B : ByteArray} {C : List Nat} {l : List mIn} (hp : pfx C (B.data.toList.drop k) = true) (h : l.all (okFb co k C) = true) : l.all (okE co B) = true := by
  rw [List.all_eq_true] at h ⊢
  exact fun e he => okFb_ok hp (h e he)
theorem pfx_map : ∀ l : List UInt8, pfx (l.map UInt8.toNat) l = true
  | [] => rfl
  | b :: bs => by
    show (Nat.beq b.toNat b.toNat && pfx (bs.map UInt8.toNat) bs) = true
    rw [pfx_map bs, Nat.beq_refl]
    rfl
noncomputable def okGb (co k : Nat) (B : ByteArray) (e : mIn) : Bool := okFb co k ((B.data.toList.drop k).map UInt8.toNat) e
theorem all_okGb {co k : Nat} {B : ByteArray} {l : List mIn} (h : l.all (okGb co k B) = true) : l.all (okE co B) = true := all_okFb (pfx_map _) h
