/-! ===== the String constant: the JDK's own length and charAt, as they run on it ===== -/
abbrev jP (base aK aV : Nat) (av : List Value) : Array Value → State → Prop := fun v U => v = av.toArray ∧ sL base aK aV U
abbrev jQ (r : Option Value) : Array Value → State → Outcome → State → Prop := fun _ st oc t => oc = .returned r ∧ t.heap = st.heap
noncomputable abbrev jws (y : MethodName) (cc : ByteArray) (n : Nat) (ret : Option FieldType) : List Cond := .code y cc n ret :: lw_tbk
theorem jP_blind {base aK aV : Nat} {av : List Value} : FrameBlind (jP base aK aV av) := by
  intro a0 U g mk q
  exact ⟨q.1, q.2.to (U := U.calling g mk a0) (Vm.Alike.refl U.vm) (fun _ _ => rfl)⟩
theorem jP_pre {base aK aV : Nat} {av : List Value} {s : State} {H : Heap} (hs : sL base aK aV s) (hH : ∀ q : Nat, q < base → H[q]? = s.heap[q]?) : ∀ U : State, U.heap = H → s.WarmedH U.vm → jP base aK aV av av.toArray U := by
  intro U hU hW
  exact ⟨rfl, hs.to hW.alike (fun q hq => by rw [hU]; exact hH q hq)⟩
theorem jws_warm {y : MethodName} {cc : ByteArray} {n : Nat} {ret : Option FieldType} {args : Array Value} {s : State} (hc : Cond.code y cc n ret ∈ lw_tbk) (hts : ∀ w ∈ lw_tbk, w.before args s = true) : ∀ w ∈ jws y cc n ret, ∀ (a' : Array Value) (U : State), s.WarmedH U.vm → w.before a' U = true := by
  intro w hw
  rcases List.mem_cons.mp hw with rfl | hw
  · exact warm_tbl hts _ hc
  · exact warm_tbl hts w hw
/-- what stands around a method of the JDK -/
def jC (cc : ByteArray) (maxL : Nat) (ret : Option FieldType) (own : String) (base aK aV d : Nat) (p : Program) (R : Room) (s : State) (m : MethodId) (args : Array Value) (meth : Method) (c : Code) : Prop :=
  p.tables.exec = Jvm.exec ∧ c.code = cc ∧ meth.sig.returnType = ret ∧ c.maxLocals = maxL ∧ s.vm.findClass own = some m.cls ∧ (∀ w ∈ lw_tbk, w.before args s = true) ∧ meth.locks = false ∧ sL base aK aV s ∧ d + 1 ≤ R.frames ∧ 60 * (d + 1) ≤ R.locals
theorem jm_of {l : Launch} {y : MethodName} {cc : ByteArray} {maxL : Nat} {ret : Option FieldType} {base aK aV d : Nat} {av : List Value} {r : Option Value} (hy : plainFor y = true) (hfit : (lg_sl av).length ≤ maxL)
    (K : ∀ (p : Program) (e : Env) (R : Room) (s : State) (m : MethodId) (args : Array Value) (below : List Frame) (meth : Method) (c : Code) (ls : Array Slot), jC cc maxL ret y.cls base aK aV d p R s m args meth c → lv_has ls maxL (lv_args 0 av) → W p l e R s m args below meth c s.heap [] 0 0 (MQ below (jQ r) args s 0 0 (fun q => base ≤ q)) (F0 m 0 ls [])) :
    Met l y (jws y cc maxL ret) (rmv d 0 0) (jP base aK aV av) (jQ r) 0 0 (fun q => base ≤ q) := by
  refine va_MetF (cc := cc) (maxL := maxL) (ret := ret) hy rfl ?_
  intro p e s m args below meth c s₁ B hml hv
  obtain ⟨rfl, hs⟩ := hv
  have hts0 := atoms_spec (ws := jws y cc maxL ret) B.pre
  have hl := lv_entry av (n := maxL) hfit
  rw [lg_entry_eq]
  exact K p e _ s m _ below meth c _ ⟨B.exec, B.bytes, B.returns, hml, findClass_of_methodNamed B.named, fun w hw => hts0 w (List.mem_cons_of_mem _ hw), B.notSynchronized, hs, Nat.le_refl _, Nat.le_refl _⟩ hl
set_option maxRecDepth 100000 in
theorem jw_lenL : Cond.methodLink "PointsHome$Tape" 89 ⟨"java/lang/String", "length", "()I"⟩ ∈ lw_tbk := tbk_of (List.mem_of_getElem? (i := 1083) (by decide +kernel)) rfl
set_option maxRecDepth 100000 in
theorem jw_lenI : Cond.instanceMethod ⟨"java/lang/String", "length", "()I"⟩ ∈ lw_tbk := tbk_of (List.mem_of_getElem? (i := 1084) (by decide +kernel)) rfl
set_option maxRecDepth 100000 in
theorem jw_lenS : Cond.selects "java/lang/String" ⟨"java/lang/String", "length", "()I"⟩ ⟨"java/lang/String", "length", "()I"⟩ ∈ lw_tbk := tbk_of (List.mem_of_getElem? (i := 1085) (by decide +kernel)) rfl
set_option maxRecDepth 100000 in
theorem jw_lenC : Cond.code ⟨"java/lang/String", "length", "()I"⟩ prog_17_method_54_code 1 (some .int) ∈ lw_tbk := tbk_of (List.mem_of_getElem? (i := 1086) (by decide +kernel)) rfl
set_option maxRecDepth 100000 in
theorem jw_codL : Cond.methodLink "java/lang/String" 335 ⟨"java/lang/String", "coder", "()B"⟩ ∈ lw_tbk := tbk_of (List.mem_of_getElem? (i := 1087) (by decide +kernel)) rfl
set_option maxRecDepth 100000 in
theorem jw_codI : Cond.instanceMethod ⟨"java/lang/String", "coder", "()B"⟩ ∈ lw_tbk := tbk_of (List.mem_of_getElem? (i := 1088) (by decide +kernel)) rfl
set_option maxRecDepth 100000 in
theorem jw_codS : Cond.selects "java/lang/String" ⟨"java/lang/String", "coder", "()B"⟩ ⟨"java/lang/String", "coder", "()B"⟩ ∈ lw_tbk := tbk_of (List.mem_of_getElem? (i := 1089) (by decide +kernel)) rfl
set_option maxRecDepth 100000 in
theorem jw_codC : Cond.code ⟨"java/lang/String", "coder", "()B"⟩ prog_17_method_152_code 1 (some .byte) ∈ lw_tbk := tbk_of (List.mem_of_getElem? (i := 1090) (by decide +kernel)) rfl
set_option maxRecDepth 100000 in
theorem jw_cmpL : Cond.fieldLink "java/lang/String" 38 "java/lang/String" "COMPACT_STRINGS" "Z" ∈ lw_tbk := tbk_of (List.mem_of_getElem? (i := 1091) (by decide +kernel)) rfl
set_option maxRecDepth 100000 in
theorem jw_chrL : Cond.methodLink "PointsHome$Tape" 94 ⟨"java/lang/String", "charAt", "(I)C"⟩ ∈ lw_tbk := tbk_of (List.mem_of_getElem? (i := 1093) (by decide +kernel)) rfl
set_option maxRecDepth 100000 in
theorem jw_chrI : Cond.instanceMethod ⟨"java/lang/String", "charAt", "(I)C"⟩ ∈ lw_tbk := tbk_of (List.mem_of_getElem? (i := 1094) (by decide +kernel)) rfl
set_option maxRecDepth 100000 in
theorem jw_chrS : Cond.selects "java/lang/String" ⟨"java/lang/String", "charAt", "(I)C"⟩ ⟨"java/lang/String", "charAt", "(I)C"⟩ ∈ lw_tbk := tbk_of (List.mem_of_getElem? (i := 1095) (by decide +kernel)) rfl
set_option maxRecDepth 100000 in
theorem jw_chrC : Cond.code ⟨"java/lang/String", "charAt", "(I)C"⟩ prog_17_method_56_code 2 (some .char) ∈ lw_tbk := tbk_of (List.mem_of_getElem? (i := 1096) (by decide +kernel)) rfl
set_option maxRecDepth 100000 in
theorem jw_latL : Cond.methodLink "java/lang/String" 492 ⟨"java/lang/String", "isLatin1", "()Z"⟩ ∈ lw_tbk := tbk_of (List.mem_of_getElem? (i := 1097) (by decide +kernel)) rfl
set_option maxRecDepth 100000 in
theorem jw_latI : Cond.instanceMethod ⟨"java/lang/String", "isLatin1", "()Z"⟩ ∈ lw_tbk := tbk_of (List.mem_of_getElem? (i := 1098) (by decide +kernel)) rfl
set_option maxRecDepth 100000 in
theorem jw_latS : Cond.selects "java/lang/String" ⟨"java/lang/String", "isLatin1", "()Z"⟩ ⟨"java/lang/String", "isLatin1", "()Z"⟩ ∈ lw_tbk := tbk_of (List.mem_of_getElem? (i := 1099) (by decide +kernel)) rfl
set_option maxRecDepth 100000 in
theorem jw_latC : Cond.code ⟨"java/lang/String", "isLatin1", "()Z"⟩ prog_17_method_154_code 1 (some .boolean) ∈ lw_tbk := tbk_of (List.mem_of_getElem? (i := 1100) (by decide +kernel)) rfl
set_option maxRecDepth 100000 in
theorem jw_lchL : Cond.methodLink "java/lang/String" 495 ⟨"java/lang/StringLatin1", "charAt", "([BI)C"⟩ ∈ lw_tbk := tbk_of (List.mem_of_getElem? (i := 1101) (by decide +kernel)) rfl
set_option maxRecDepth 100000 in
theorem jw_lchT : Cond.static ⟨"java/lang/StringLatin1", "charAt", "([BI)C"⟩ ∈ lw_tbk := tbk_of (List.mem_of_getElem? (i := 1102) (by decide +kernel)) rfl
set_option maxRecDepth 100000 in
theorem jw_lchC : Cond.code ⟨"java/lang/StringLatin1", "charAt", "([BI)C"⟩ prog_18_method_2_code 2 (some .char) ∈ lw_tbk := tbk_of (List.mem_of_getElem? (i := 1103) (by decide +kernel)) rfl
set_option maxRecDepth 100000 in
theorem jw_ckiL : Cond.methodLink "java/lang/StringLatin1" 9 ⟨"java/lang/String", "checkIndex", "(II)V"⟩ ∈ lw_tbk := tbk_of (List.mem_of_getElem? (i := 1104) (by decide +kernel)) rfl
set_option maxRecDepth 100000 in
theorem jw_ckiT : Cond.static ⟨"java/lang/String", "checkIndex", "(II)V"⟩ ∈ lw_tbk := tbk_of (List.mem_of_getElem? (i := 1105) (by decide +kernel)) rfl
set_option maxRecDepth 100000 in
theorem jw_ckiC : Cond.code ⟨"java/lang/String", "checkIndex", "(II)V"⟩ prog_17_method_155_code 2 none ∈ lw_tbk := tbk_of (List.mem_of_getElem? (i := 1106) (by decide +kernel)) rfl
set_option maxRecDepth 100000 in
theorem jw_fmtL : Cond.fieldLink "java/lang/String" 1053 "jdk/internal/util/Preconditions" "SIOOBE_FORMATTER" "Ljava/util/function/BiFunction;" ∈ lw_tbk := tbk_of (List.mem_of_getElem? (i := 1107) (by decide +kernel)) rfl
set_option maxRecDepth 100000 in
theorem jw_preL : Cond.methodLink "java/lang/String" 1059 ⟨"jdk/internal/util/Preconditions", "checkIndex", "(IILjava/util/function/BiFunction;)I"⟩ ∈ lw_tbk := tbk_of (List.mem_of_getElem? (i := 1109) (by decide +kernel)) rfl
set_option maxRecDepth 100000 in
theorem jw_preT : Cond.static ⟨"jdk/internal/util/Preconditions", "checkIndex", "(IILjava/util/function/BiFunction;)I"⟩ ∈ lw_tbk := tbk_of (List.mem_of_getElem? (i := 1110) (by decide +kernel)) rfl
set_option maxRecDepth 100000 in
theorem jw_preC : Cond.code ⟨"jdk/internal/util/Preconditions", "checkIndex", "(IILjava/util/function/BiFunction;)I"⟩ prog_22_method_11_code 3 (some .int) ∈ lw_tbk := tbk_of (List.mem_of_getElem? (i := 1111) (by decide +kernel)) rfl
set_option maxRecDepth 100000 in
theorem jw_valL : Cond.fieldLink "java/lang/String" 9 "java/lang/String" "value" "[B" ∈ lw_tbk := tbk_of (List.mem_of_getElem? (i := 2638) (by decide +kernel)) rfl
set_option maxRecDepth 100000 in
theorem jw_cdrL : Cond.fieldLink "java/lang/String" 15 "java/lang/String" "coder" "B" ∈ lw_tbk := tbk_of (List.mem_of_getElem? (i := 2639) (by decide +kernel)) rfl
set_option maxRecDepth 100000 in
theorem jw_iniS : Cond.initialized "java/lang/String" ∈ lw_tbk := tbk_of (List.mem_of_getElem? (i := 150) (by decide +kernel)) rfl
set_option maxRecDepth 100000 in
theorem jw_iniL : Cond.initialized "java/lang/StringLatin1" ∈ lw_tbk := tbk_of (List.mem_of_getElem? (i := 151) (by decide +kernel)) rfl
set_option maxRecDepth 100000 in
theorem jw_iniP : Cond.initialized "jdk/internal/util/Preconditions" ∈ lw_tbk := tbk_of (List.mem_of_getElem? (i := 152) (by decide +kernel)) rfl
section JCALL
variable {p : Program} {l : Launch} {e : Env} {R : Room} {s : State} {m : MethodId} {args : Array Value} {below : List Frame} {meth : Method} {c : Code} {H : Heap} {locs : List Loc} {cells slots : Nat} {Q : State → Prop} {cc ccy : ByteArray} {pc index maxL nL d d' base aK aV : Nat} {ls : Array Slot} {st rest As : List Value} {own C : String} {y : MethodName} {rety : Option FieldType} {r : Option Value} {b : Nat}
theorem jcV (hx : p.tables.exec = Jvm.exec) (hb : c.code = cc) (hml : c.maxLocals = maxL) (hown : s.vm.findClass own = some m.cls) (hts : ∀ w ∈ lw_tbk, w.before args s = true) (hs : sL base aK aV s) (hH : ∀ q : Nat, q < base → H[q]? = s.heap[q]?) (hfr : d + 1 ≤ R.frames) (hlo : 60 * (d + 1) ≤ R.locals) (hce : cells ≤ R.cells) (hsl : slots ≤ R.slots)
    (hM : Met l y (jws y ccy nL rety) (rmv d' 0 0) (jP base aK aV (.ref b :: As)) (jQ r) 0 0 (fun q => base ≤ q)) (hd : d' + 1 ≤ d) (hn : nL ≤ 20) (hcode : Cond.code y ccy nL rety ∈ lw_tbk) (hini : Cond.initialized y.cls ∈ lw_tbk) (hcls : y.cls ≠ "java/lang/invoke/MethodHandle" ∧ y.cls ≠ "java/lang/invoke/VarHandle") (hpar : (parseMethodDescriptor y.desc).map (fun d => d.parameters.length) = some As.length) (hlink : Cond.methodLink own index y ∈ lw_tbk) (hinst : Cond.instanceMethod y ∈ lw_tbk) (hsel : Cond.selects C y y ∈ lw_tbk)
    (hrec : ∃ cell : Cell, H[b]? = some cell ∧ cell.vm.isStatics = false ∧ s.vm.findClass C = some cell.cls) (hsz : ls.size = maxL) (hst : st = As.reverse ++ .ref b :: rest) (hcat : (rest.map fun v => v.category).sum ≤ 8) (hdc : decode cc pc = .ok (.invokevirtual index, 3)) (hL : ∀ q ∈ locs, base ≤ q.base)
    (K : ∀ locs' : List Loc, (∀ q ∈ locs', base ≤ q.base) → W p l e R s m args below meth c H locs' cells slots Q (F0 m (pc + 3) ls (r.toList ++ rest))) : W p l e R s m args below meth c H locs cells slots Q (F0 m pc ls st) := by
  refine call_on (mc := 0) (ms := 0) (va_runV (Ts := lw_tbk) (own := own) (C := C) (As := As) ⟨hx, hb, hml, hown, hts⟩ hM ⟨⟨rfl, rfl, ?_, ?_, jws_warm hcode hts, List.mem_cons_self, hts _ hcode, hts _ hini, hcls, fun sig h => by rw [h] at hpar; exact (Option.some.inj hpar).symm, hts _ hlink⟩, hts _ hinst, hts _ hsel⟩ ⟨jP_blind, hrec, jP_pre hs hH⟩ rfl rfl hsz hst (lv_room hcat) hdc ⟨by omega, by omega⟩) (fun v st₀ t L h0 hL2 hq hal => ?_)
  · show d' + 1 + 1 ≤ R.frames
    omega
  · show 8 + (nL + 11) + 60 * (d' + 1) ≤ R.locals
    omega
  · obtain ⟨hv, ht⟩ := hq
    cases hv
    rw [ht, h0]
    exact K _ (fun q hq => by
      rcases List.mem_append.mp hq with h | h
      · exact hL q h
      · exact hL2 q h)
theorem jcS (hx : p.tables.exec = Jvm.exec) (hb : c.code = cc) (hml : c.maxLocals = maxL) (hown : s.vm.findClass own = some m.cls) (hts : ∀ w ∈ lw_tbk, w.before args s = true) (hs : sL base aK aV s) (hH : ∀ q : Nat, q < base → H[q]? = s.heap[q]?) (hfr : d + 1 ≤ R.frames) (hlo : 60 * (d + 1) ≤ R.locals) (hce : cells ≤ R.cells) (hsl : slots ≤ R.slots)
    (hM : Met l y (jws y ccy nL rety) (rmv d' 0 0) (jP base aK aV As) (jQ r) 0 0 (fun q => base ≤ q)) (hd : d' + 1 ≤ d) (hn : nL ≤ 20) (hcode : Cond.code y ccy nL rety ∈ lw_tbk) (hini : Cond.initialized y.cls ∈ lw_tbk) (hcls : y.cls ≠ "java/lang/invoke/MethodHandle" ∧ y.cls ≠ "java/lang/invoke/VarHandle") (hpar : (parseMethodDescriptor y.desc).map (fun d => d.parameters.length) = some As.length) (hlink : Cond.methodLink own index y ∈ lw_tbk) (hstc : Cond.static y ∈ lw_tbk)
    (hsz : ls.size = maxL) (hst : st = As.reverse ++ rest) (hcat : (rest.map fun v => v.category).sum ≤ 8) (hdc : decode cc pc = .ok (.invokestatic index, 3)) (hL : ∀ q ∈ locs, base ≤ q.base)
    (K : ∀ locs' : List Loc, (∀ q ∈ locs', base ≤ q.base) → W p l e R s m args below meth c H locs' cells slots Q (F0 m (pc + 3) ls (r.toList ++ rest))) : W p l e R s m args below meth c H locs cells slots Q (F0 m pc ls st) := by
  refine call_on (mc := 0) (ms := 0) (va_runS (Ts := lw_tbk) (own := own) (As := As) ⟨hx, hb, hml, hown, hts⟩ hM ⟨⟨rfl, rfl, ?_, ?_, jws_warm hcode hts, List.mem_cons_self, hts _ hcode, hts _ hini, hcls, fun sig h => by rw [h] at hpar; exact (Option.some.inj hpar).symm, hts _ hlink⟩, hts _ hstc⟩ ⟨jP_blind, jP_pre hs hH⟩ rfl rfl hsz hst (lv_room hcat) hdc ⟨by omega, by omega⟩) (fun v st₀ t L h0 hL2 hq hal => ?_)
  · show d' + 1 + 1 ≤ R.frames
    omega
  · show 8 + (nL + 11) + 60 * (d' + 1) ≤ R.locals
    omega
  · obtain ⟨hv, ht⟩ := hq
    cases hv
    rw [ht, h0]
    exact K _ (fun q hq => by
      rcases List.mem_append.mp hq with h | h
      · exact hL q h
      · exact hL2 q h)
end JCALL
section JM
variable {l : Launch} {base aK aV d : Nat}
theorem jm_coder : Met l ⟨"java/lang/String", "coder", "()B"⟩ (jws ⟨"java/lang/String", "coder", "()B"⟩ prog_17_method_152_code 1 (some .byte)) (rmv d 0 0) (jP base aK aV [.ref aK]) (jQ (some (.int 0))) 0 0 (fun q => base ≤ q) := by
  refine jm_of (by decide) (Nat.le_refl 1) ?_
  intro p e R s m args below meth c ls hC hl
  obtain ⟨hx, hb, hr, hml, hown, hts, hlk, hs, hfr, hlo⟩ := hC
  have hl0 : ls[0]? = some (.val (.ref aK)) := lv_at hl 0 rfl
  obtain ⟨cf, kf, fi, fd, a, cell, h1, h2, h3, h4, h5, h6, h7, h8⟩ := hs.2.1
  refine W.gets hx hb hown (hts _ jw_cmpL) h1 h2 h3 h4 h5 (fun e => by rw [e] at h6; cases h6) h7 rfl (show decode prog_17_method_152_code 0 = .ok (.getstatic 38, 3) by decide +kernel) ?_
  refine lv_if_eq (tgt := 13) (off := 10) hx hb (show decode prog_17_method_152_code 3 = .ok (.ifCond .eq 10, 3) by decide +kernel) rfl (fun q => absurd q (by decide)) (fun _ => ?_)
  refine lv_aload_n (k := 0) (i := 0) hx hb (show decode prog_17_method_152_code 6 = .ok (.aload_n 0, 1) by decide +kernel) rfl hl0 ?_
  obtain ⟨cg, kg, gi, gd, cellg, g1, g2, g3, g4, g5, g6⟩ := (hs.1.1 0 (by decide)).2.1
  refine W.getf hx hb hown (hts _ jw_cdrL) g1 g2 g3 g4 g5 rfl rfl (show decode prog_17_method_152_code 7 = .ok (.getfield 15, 3) by decide +kernel) ?_
  refine lv_goto (tgt := 14) (off := 4) hx hb (show decode prog_17_method_152_code 10 = .ok (.goto 4, 3) by decide +kernel) rfl ?_
  exact W.zret hx hb hr (by decide) (fun t ht hW => ⟨rfl, ht⟩) (fun q h => by cases h) (show decode prog_17_method_152_code 14 = .ok (.ireturn, 1) by decide +kernel)
theorem jm_latin : Met l ⟨"java/lang/String", "isLatin1", "()Z"⟩ (jws ⟨"java/lang/String", "isLatin1", "()Z"⟩ prog_17_method_154_code 1 (some .boolean)) (rmv d 0 0) (jP base aK aV [.ref aK]) (jQ (some (.int 1))) 0 0 (fun q => base ≤ q) := by
  refine jm_of (by decide) (Nat.le_refl 1) ?_
  intro p e R s m args below meth c ls hC hl
  obtain ⟨hx, hb, hr, hml, hown, hts, hlk, hs, hfr, hlo⟩ := hC
  have hl0 : ls[0]? = some (.val (.ref aK)) := lv_at hl 0 rfl
  obtain ⟨cf, kf, fi, fd, a, cell, h1, h2, h3, h4, h5, h6, h7, h8⟩ := hs.2.1
  refine W.gets hx hb hown (hts _ jw_cmpL) h1 h2 h3 h4 h5 (fun e => by rw [e] at h6; cases h6) h7 rfl (show decode prog_17_method_154_code 0 = .ok (.getstatic 38, 3) by decide +kernel) ?_
  refine lv_if_eq (tgt := 17) (off := 14) hx hb (show decode prog_17_method_154_code 3 = .ok (.ifCond .eq 14, 3) by decide +kernel) rfl (fun q => absurd q (by decide)) (fun _ => ?_)
  refine lv_aload_n (k := 0) (i := 0) hx hb (show decode prog_17_method_154_code 6 = .ok (.aload_n 0, 1) by decide +kernel) rfl hl0 ?_
  obtain ⟨cg, kg, gi, gd, cellg, g1, g2, g3, g4, g5, g6⟩ := (hs.1.1 0 (by decide)).2.1
  refine W.getf hx hb hown (hts _ jw_cdrL) g1 g2 g3 g4 g5 rfl rfl (show decode prog_17_method_154_code 7 = .ok (.getfield 15, 3) by decide +kernel) ?_
  refine lv_if_ne (tgt := 17) (off := 7) hx hb (show decode prog_17_method_154_code 10 = .ok (.ifCond .ne 7, 3) by decide +kernel) rfl (fun q => absurd rfl q) (fun _ => ?_)
  refine lv_iconst (n := 1) hx hb (show decode prog_17_method_154_code 13 = .ok (.iconst 1, 1) by decide +kernel) rfl ?_
  refine lv_goto (tgt := 18) (off := 4) hx hb (show decode prog_17_method_154_code 14 = .ok (.goto 4, 3) by decide +kernel) rfl ?_
  exact W.zret hx hb hr (by decide) (fun t ht hW => ⟨rfl, ht⟩) (fun q h => by cases h) (show decode prog_17_method_154_code 18 = .ok (.ireturn, 1) by decide +kernel)
theorem jm_length : Met l ⟨"java/lang/String", "length", "()I"⟩ (jws ⟨"java/lang/String", "length", "()I"⟩ prog_17_method_54_code 1 (some .int)) (rmv (d + 1) 0 0) (jP base aK aV [.ref aK]) (jQ (some (.int 97))) 0 0 (fun q => base ≤ q) := by
  refine jm_of (by decide) (Nat.le_refl 1) ?_
  intro p e R s m args below meth c ls hC hl
  obtain ⟨hx, hb, hr, hml, hown, hts, hlk, hs, hfr, hlo⟩ := hC
  have hl0 : ls[0]? = some (.val (.ref aK)) := lv_at hl 0 rfl
  refine lv_aload_n (k := 0) (i := 0) hx hb (show decode prog_17_method_54_code 0 = .ok (.aload_n 0, 1) by decide +kernel) rfl hl0 ?_
  obtain ⟨cg, kg, gi, gd, cellg, g1, g2, g3, g4, g5, g6⟩ := (hs.1.1 0 (by decide)).2.2.1
  refine W.getf hx hb hown (hts _ jw_valL) g1 g2 g3 g4 g5 rfl rfl (show decode prog_17_method_54_code 1 = .ok (.getfield 9, 3) by decide +kernel) ?_
  obtain ⟨cell, t1, t2, t3, t4, t5, t6, t7⟩ := (hs.1.1 0 (by decide)).2.2.2
  refine W.alen (n := 97) hx hb t1 t2 t5 rfl rfl (show decode prog_17_method_54_code 4 = .ok (.arraylength, 1) by decide +kernel) ?_
  refine lv_aload_n (k := 0) (i := 0) hx hb (show decode prog_17_method_54_code 5 = .ok (.aload_n 0, 1) by decide +kernel) rfl hl0 ?_
  obtain ⟨cs, o1, o2, o3, o4⟩ := (hs.1.1 0 (by decide)).1
  refine jcV (As := []) (rest := [.int 97]) (C := "java/lang/String") hx hb hml hown hts hs (fun _ _ => rfl) hfr hlo (Nat.zero_le _) (Nat.zero_le _) (jm_coder (d := d)) (Nat.le_refl _) (by decide) jw_codC jw_iniS (by decide) (show _ = some 0 by decide +kernel) jw_codL jw_codI jw_codS ⟨cs, o1, o2, o3⟩ hl.1 rfl (by decide) (show decode prog_17_method_54_code 6 = .ok (.invokevirtual 335, 3) by decide +kernel) (fun q h => by cases h) (fun locs' hL => ?_)
  refine lv_ishr hx hb (show decode prog_17_method_54_code 9 = .ok (.ishr, 1) by decide +kernel) ?_
  exact W.iret (v := 97) hx hb hr (fun t ht hW => ⟨rfl, ht⟩) hL (show decode prog_17_method_54_code 10 = .ok (.ireturn, 1) by decide +kernel)
theorem jm_pre {i : Int32} {v : Value} (hv : v.category = 1) (hi : inR i 97 = true) : Met l ⟨"jdk/internal/util/Preconditions", "checkIndex", "(IILjava/util/function/BiFunction;)I"⟩ (jws ⟨"jdk/internal/util/Preconditions", "checkIndex", "(IILjava/util/function/BiFunction;)I"⟩ prog_22_method_11_code 3 (some .int)) (rmv d 0 0) (jP base aK aV [.int i, .int 97, v]) (jQ (some (.int i))) 0 0 (fun q => base ≤ q) := by
  have hr2 : ¬ i < 0 ∧ i < 97 := by
    unfold inR at hi
    rw [Bool.and_eq_true, decide_eq_true_eq, decide_eq_true_eq] at hi
    refine ⟨hi.1, ?_⟩
    rw [Int32.lt_iff_toInt_lt] at hi ⊢
    have hz : (0 : Int32).toInt = 0 := rfl
    have h97 : (97 : Int32).toInt = 97 := rfl
    have hc : i.toNatClampNeg = i.toInt.toNat := rfl
    omega
  have hfit : (lg_sl [.int i, .int 97, v]).length ≤ 3 := by
    have e : lg_sl [.int i, .int 97, v] = Slot.val (.int i) :: Slot.val (.int 97) :: lg_sl [v] := rfl
    have e2 : (lg_sl [v]).length = 1 := by
      unfold lg_sl
      simp only [List.flatMap_cons, List.flatMap_nil, List.append_nil, hv]
      rfl
    rw [e, List.length_cons, List.length_cons, e2]
    omega
  refine jm_of (by decide) hfit ?_
  intro p e R s m args below meth c ls hC hl
  obtain ⟨hx, hb, hr, hml, hown, hts, hlk, hs, hfr, hlo⟩ := hC
  have hl0 : ls[0]? = some (.val (.int i)) := lv_at hl 0 rfl
  have hl1 : ls[1]? = some (.val (.int 97)) := lv_at hl 1 rfl
  refine lv_iload_n (k := 0) (i := 0) hx hb (show decode prog_22_method_11_code 0 = .ok (.iload_n 0, 1) by decide +kernel) rfl hl0 ?_
  refine lv_if_lt (tgt := 9) (off := 8) hx hb (show decode prog_22_method_11_code 1 = .ok (.ifCond .lt 8, 3) by decide +kernel) rfl (fun q => absurd q hr2.1) (fun _ => ?_)
  refine lv_iload_n (k := 0) (i := 0) hx hb (show decode prog_22_method_11_code 4 = .ok (.iload_n 0, 1) by decide +kernel) rfl hl0 ?_
  refine lv_iload_n (k := 1) (i := 1) hx hb (show decode prog_22_method_11_code 5 = .ok (.iload_n 1, 1) by decide +kernel) rfl hl1 ?_
  refine lv_icmp_lt (tgt := 16) (off := 10) hx hb (show decode prog_22_method_11_code 6 = .ok (.if_icmp .lt 10, 3) by decide +kernel) rfl (fun _ => ?_) (fun q => absurd hr2.2 q)
  refine lv_iload_n (k := 0) (i := 0) hx hb (show decode prog_22_method_11_code 16 = .ok (.iload_n 0, 1) by decide +kernel) rfl hl0 ?_
  exact W.iret (v := i) hx hb hr (fun t ht hW => ⟨rfl, ht⟩) (fun q h => by cases h) (show decode prog_22_method_11_code 17 = .ok (.ireturn, 1) by decide +kernel)
theorem jm_cki {i : Int32} (hi : inR i 97 = true) : Met l ⟨"java/lang/String", "checkIndex", "(II)V"⟩ (jws ⟨"java/lang/String", "checkIndex", "(II)V"⟩ prog_17_method_155_code 2 none) (rmv (d + 1) 0 0) (jP base aK aV [.int i, .int 97]) (jQ none) 0 0 (fun q => base ≤ q) := by
  refine jm_of (by decide) (Nat.le_refl 2) ?_
  intro p e R s m args below meth c ls hC hl
  obtain ⟨hx, hb, hr, hml, hown, hts, hlk, hs, hfr, hlo⟩ := hC
  have hl0 : ls[0]? = some (.val (.int i)) := lv_at hl 0 rfl
  have hl1 : ls[1]? = some (.val (.int 97)) := lv_at hl 1 rfl
  refine lv_iload_n (k := 0) (i := 0) hx hb (show decode prog_17_method_155_code 0 = .ok (.iload_n 0, 1) by decide +kernel) rfl hl0 ?_
  refine lv_iload_n (k := 1) (i := 1) hx hb (show decode prog_17_method_155_code 1 = .ok (.iload_n 1, 1) by decide +kernel) rfl hl1 ?_
  have hz : ∃ v : Value, v.category = 1 ∧ va_Z "jdk/internal/util/Preconditions" "SIOOBE_FORMATTER" "Ljava/util/function/BiFunction;" v (fun q => base ≤ q) s s.heap := by
    rcases hs.2.2 with h | ⟨t, h⟩
    · exact ⟨.null, rfl, h⟩
    · exact ⟨.ref t, rfl, h⟩
  obtain ⟨v, hv, cf, kf, fi, fd, a, cell, h1, h2, h3, h4, h5, h6, h7, h8⟩ := hz
  refine W.gets hx hb hown (hts _ jw_fmtL) h1 h2 h3 h4 h5 (fun e => by rw [e] at h6; cases h6) h7 rfl (show decode prog_17_method_155_code 2 = .ok (.getstatic 1053, 3) by decide +kernel) ?_
  refine jcS (As := [.int i, .int 97, v]) (rest := []) hx hb hml hown hts hs (fun _ _ => rfl) hfr hlo (Nat.zero_le _) (Nat.zero_le _) (jm_pre (d := d) hv hi) (Nat.le_refl _) (by decide) jw_preC jw_iniP (by decide) (show _ = some 3 by decide +kernel) jw_preL jw_preT hl.1 rfl (by decide) (show decode prog_17_method_155_code 5 = .ok (.invokestatic 1059, 3) by decide +kernel) (fun q h => by cases h) (fun locs' hL => ?_)
  refine lv_pop hx hb (show decode prog_17_method_155_code 8 = .ok (.pop, 1) by decide +kernel) rfl ?_
  exact W.vret hx hb hr (fun t ht hW => ⟨rfl, ht⟩) hL (show decode prog_17_method_155_code 9 = .ok (.return_, 1) by decide +kernel)
def chW (i : Int32) : Int32 := (((bytW.getD i.toNatClampNeg 0) &&& 255).toUInt32 % 65536).toInt32
theorem chW_ok : ∀ k, k < 97 → narrow .char (.int (((bytW.getD k 0) &&& 255).toUInt32 % 65536).toInt32) = .int (((bytW.getD k 0) &&& 255).toUInt32 % 65536).toInt32 := by decide +kernel
theorem jm_lch {i : Int32} (hi : inR i 97 = true) : Met l ⟨"java/lang/StringLatin1", "charAt", "([BI)C"⟩ (jws ⟨"java/lang/StringLatin1", "charAt", "([BI)C"⟩ prog_18_method_2_code 2 (some .char)) (rmv (d + 1 + 1) 0 0) (jP base aK aV [.ref aV, .int i]) (jQ (some (.int (chW i)))) 0 0 (fun q => base ≤ q) := by
  have hr2 : ¬ i < 0 ∧ i.toNatClampNeg < 97 := by
    unfold inR at hi
    rw [Bool.and_eq_true] at hi
    exact ⟨of_decide_eq_true hi.1, of_decide_eq_true hi.2⟩
  refine jm_of (by decide) (Nat.le_refl 2) ?_
  intro p e R s m args below meth c ls hC hl
  obtain ⟨hx, hb, hr, hml, hown, hts, hlk, hs, hfr, hlo⟩ := hC
  have hl0 : ls[0]? = some (.val (.ref aV)) := lv_at hl 0 rfl
  have hl1 : ls[1]? = some (.val (.int i)) := lv_at hl 1 rfl
  obtain ⟨cell, t1, t2, t3, t4, t5, t6, t7⟩ := (hs.1.1 0 (by decide)).2.2.2
  refine lv_iload_n (k := 1) (i := 1) hx hb (show decode prog_18_method_2_code 0 = .ok (.iload_n 1, 1) by decide +kernel) rfl hl1 ?_
  refine lv_aload_n (k := 0) (i := 0) hx hb (show decode prog_18_method_2_code 1 = .ok (.aload_n 0, 1) by decide +kernel) rfl hl0 ?_
  refine W.alen (n := 97) hx hb t1 t2 t5 rfl rfl (show decode prog_18_method_2_code 2 = .ok (.arraylength, 1) by decide +kernel) ?_
  refine jcS (As := [.int i, .int 97]) (rest := []) hx hb hml hown hts hs (fun _ _ => rfl) hfr hlo (Nat.zero_le _) (Nat.zero_le _) (jm_cki (d := d) hi) (Nat.le_refl _) (by decide) jw_ckiC jw_iniS (by decide) (show _ = some 2 by decide +kernel) jw_ckiL jw_ckiT hl.1 rfl (by decide) (show decode prog_18_method_2_code 3 = .ok (.invokestatic 9, 3) by decide +kernel) (fun q h => by cases h) (fun locs' hL => ?_)
  refine lv_aload_n (k := 0) (i := 0) hx hb (show decode prog_18_method_2_code 6 = .ok (.aload_n 0, 1) by decide +kernel) rfl hl0 ?_
  refine lv_iload_n (k := 1) (i := 1) hx hb (show decode prog_18_method_2_code 7 = .ok (.iload_n 1, 1) by decide +kernel) rfl hl1 ?_
  refine W.bald (v := .int (bytW.getD i.toNatClampNeg 0)) hx hb t1 t2 t3 (fun q => q.elim hr2.1 (fun z => absurd (Nat.le_trans t4 z) (by show ¬ 97 ≤ i.toNatClampNeg; omega))) (t6 _ hr2.2) rfl rfl (show decode prog_18_method_2_code 8 = .ok (.baload, 1) by decide +kernel) ?_
  refine lv_sipush (n := 255) (v := 255) hx hb (show decode prog_18_method_2_code 9 = .ok (.sipush 255, 3) by decide +kernel) (by decide) ?_
  refine lv_iand hx hb (show decode prog_18_method_2_code 12 = .ok (.iand, 1) by decide +kernel) ?_
  refine lv_i2c (v := chW i) hx hb (show decode prog_18_method_2_code 13 = .ok (.i2c, 1) by decide +kernel) rfl ?_
  exact W.zret hx hb hr (chW_ok _ hr2.2) (fun t ht hW => ⟨rfl, ht⟩) hL (show decode prog_18_method_2_code 14 = .ok (.ireturn, 1) by decide +kernel)
theorem jm_charAt {i : Int32} (hi : inR i 97 = true) : Met l ⟨"java/lang/String", "charAt", "(I)C"⟩ (jws ⟨"java/lang/String", "charAt", "(I)C"⟩ prog_17_method_56_code 2 (some .char)) (rmv (d + 1 + 1 + 1) 0 0) (jP base aK aV [.ref aK, .int i]) (jQ (some (.int (chW i)))) 0 0 (fun q => base ≤ q) := by
  have hr2 : ¬ i < 0 ∧ i.toNatClampNeg < 97 := by
    unfold inR at hi
    rw [Bool.and_eq_true] at hi
    exact ⟨of_decide_eq_true hi.1, of_decide_eq_true hi.2⟩
  refine jm_of (by decide) (Nat.le_refl 2) ?_
  intro p e R s m args below meth c ls hC hl
  obtain ⟨hx, hb, hr, hml, hown, hts, hlk, hs, hfr, hlo⟩ := hC
  have hl0 : ls[0]? = some (.val (.ref aK)) := lv_at hl 0 rfl
  have hl1 : ls[1]? = some (.val (.int i)) := lv_at hl 1 rfl
  obtain ⟨cs, o1, o2, o3, o4⟩ := (hs.1.1 0 (by decide)).1
  refine lv_aload_n (k := 0) (i := 0) hx hb (show decode prog_17_method_56_code 0 = .ok (.aload_n 0, 1) by decide +kernel) rfl hl0 ?_
  refine jcV (As := []) (rest := []) (C := "java/lang/String") hx hb hml hown hts hs (fun _ _ => rfl) hfr hlo (Nat.zero_le _) (Nat.zero_le _) (jm_latin (d := d)) (by omega) (by decide) jw_latC jw_iniS (by decide) (show _ = some 0 by decide +kernel) jw_latL jw_latI jw_latS ⟨cs, o1, o2, o3⟩ hl.1 rfl (by decide) (show decode prog_17_method_56_code 1 = .ok (.invokevirtual 492, 3) by decide +kernel) (fun q h => by cases h) (fun locs' hL => ?_)
  refine lv_if_eq (tgt := 16) (off := 12) hx hb (show decode prog_17_method_56_code 4 = .ok (.ifCond .eq 12, 3) by decide +kernel) rfl (fun q => absurd q (by decide)) (fun _ => ?_)
  refine lv_aload_n (k := 0) (i := 0) hx hb (show decode prog_17_method_56_code 7 = .ok (.aload_n 0, 1) by decide +kernel) rfl hl0 ?_
  obtain ⟨cg, kg, gi, gd, cellg, g1, g2, g3, g4, g5, g6⟩ := (hs.1.1 0 (by decide)).2.2.1
  refine W.getf hx hb hown (hts _ jw_valL) g1 g2 g3 g4 g5 rfl rfl (show decode prog_17_method_56_code 8 = .ok (.getfield 9, 3) by decide +kernel) ?_
  refine lv_iload_n (k := 1) (i := 1) hx hb (show decode prog_17_method_56_code 11 = .ok (.iload_n 1, 1) by decide +kernel) rfl hl1 ?_
  refine jcS (As := [.ref aV, .int i]) (rest := []) hx hb hml hown hts hs (fun _ _ => rfl) hfr hlo (Nat.zero_le _) (Nat.zero_le _) (jm_lch (d := d) hi) (Nat.le_refl _) (by decide) jw_lchC jw_iniL (by decide) (show _ = some 2 by decide +kernel) jw_lchL jw_lchT hl.1 rfl (by decide) (show decode prog_17_method_56_code 12 = .ok (.invokestatic 495, 3) by decide +kernel) hL (fun locs' hL => ?_)
  exact W.zret hx hb hr (chW_ok _ hr2.2) (fun t ht hW => ⟨rfl, ht⟩) hL (show decode prog_17_method_56_code 15 = .ok (.ireturn, 1) by decide +kernel)
end JM
