/-! ===== a new row: clone, checkcast, aastore; Arrays.copyOf ===== -/
theorem HR_ext {D : va_G} {base : Nat} {cA : Nat → ClassId} {sh : List mE} {I I' : Nat → Nat → Int32} {L : Nat → Nat → Int64} {R : Nat → Nat → Option Nat} {U : State} {H0 H H' : Heap} {c0 : ClassId} {e0 : mE} (h : HR D base cA (sh, I, L, R) U H0 H) (hsz : H'.size = H.size + 1) (ho : ∀ z : Nat, z < H.size → H'[z]? = H[z]?) (hI : ∀ a k, ¬ a = sh.length → I' a k = I a k)
    (hq : cellOK D base (fun a => if a = sh.length then c0 else cA a) (sh ++ [e0], I', L, R) U H' sh.length e0) :
    HR D base (fun a => if a = sh.length then c0 else cA a) (sh ++ [e0], I', L, R) U H0 H' := by
  obtain ⟨h1, h2, h3⟩ := h
  dsimp only at h1 h3
  refine ⟨by rw [hsz, h1]; simp; omega, fun z hz => by rw [ho z (by omega)]; exact h2 z hz, fun a e he => ?_⟩
  dsimp only at he
  by_cases hlt : a < sh.length
  · rw [List.getElem?_append_left hlt] at he
    have hc := h3 a e he
    have hh : H'[base + a]? = H[base + a]? := ho _ (by omega)
    have hne : ¬ a = sh.length := by omega
    have hsv : ∀ k t : Nat, sv base (sh ++ [e0], I', L, R) a k t = sv base (sh, I, L, R) a k t := by
      intro k t
      unfold sv
      dsimp only
      rw [hI a k hne]
    unfold cellOK at hc ⊢
    cases e with
    | inr ci =>
      dsimp only at hc ⊢
      exact (hc.kept hh).to (fun k _ => (hsv k _).symm)
    | inl x =>
      dsimp only at hc ⊢
      rw [if_neg hne]
      refine ⟨by rw [hh, hc.1]; congr 2; funext j; exact (hsv j _).symm, hc.2⟩
  · have hae : a = sh.length := by
      have := (List.getElem?_eq_some_iff.mp he).1
      simp at this
      omega
    subst hae
    rw [List.getElem?_append_right (Nat.le_refl _), Nat.sub_self] at he
    cases he
    exact hq
def clI (I : Nat → Nat → Int32) (q z : Nat) : Nat → Nat → Int32 := fun a k => if a = z then I q k else I a k
set_option maxRecDepth 100000 in
theorem cw_link : Cond.methodLink "java/util/Arrays" 316 ⟨"[I", "clone", "()Ljava/lang/Object;"⟩ ∈ lw_tbk := tbk_of (List.mem_of_getElem? (i := 1200) (by decide +kernel)) rfl
set_option maxRecDepth 100000 in
theorem cw_same : Cond.sameMethod "[I" "java/lang/Object" "clone" "()Ljava/lang/Object;" ∈ lw_tbk := tbk_of (List.mem_of_getElem? (i := 1201) (by decide +kernel)) rfl
set_option maxRecDepth 100000 in
theorem cw_nat : Cond.native ⟨"java/lang/Object", "clone", "()Ljava/lang/Object;"⟩ ∈ lw_tbk := tbk_of (List.mem_of_getElem? (i := 1202) (by decide +kernel)) rfl
set_option maxRecDepth 100000 in
theorem cw_inst : Cond.instanceMethod ⟨"java/lang/Object", "clone", "()Ljava/lang/Object;"⟩ ∈ lw_tbk := tbk_of (List.mem_of_getElem? (i := 1203) (by decide +kernel)) rfl
set_option maxRecDepth 100000 in
theorem cw_sel : Cond.selects "[I" ⟨"[I", "clone", "()Ljava/lang/Object;"⟩ ⟨"java/lang/Object", "clone", "()Ljava/lang/Object;"⟩ ∈ lw_tbk := tbk_of (List.mem_of_getElem? (i := 1204) (by decide +kernel)) rfl
set_option maxRecDepth 100000 in
theorem cw_cast : Cond.castable "[I" "java/lang/Cloneable" ∈ lw_tbk := tbk_of (List.mem_of_getElem? (i := 1205) (by decide +kernel)) rfl
set_option maxRecDepth 100000 in
theorem cw_cls : Cond.classLink "java/util/Arrays" 317 "[I" ∈ lw_tbk := tbk_of (List.mem_of_getElem? (i := 1206) (by decide +kernel)) rfl
theorem XW.cln {d mc ms : Nat} {Q : Option Value → mW → Prop} {l : mL} {st : List Value} {sh : List mE} {I : Nat → Nat → Int32} {L : Nat → Nat → Int64} {Rr : Nat → Nat → Option Nat} {q n : Nat} (h0 : sh[q]? = some (.inl (.int, n))) (hmc : 1 ≤ mc) (hms : n ≤ ms) (hcat : (st.map fun v => v.category).sum ≤ 8) (K : XW 113 mr_113 none d (mc - 1) (ms - n) Q (10, l, .ref sh.length :: st, (sh ++ [.inl (.int, n)], clI I q sh.length, L, Rr))) : XW 113 mr_113 none d mc ms Q (7, l, .ref q :: st, (sh, I, L, Rr)) := by
  intro D base xa p L' e R s m args below meth c Z H locs cells slots lsA cA hC hfr hlo hce hsl hH hL hlv hret
  obtain ⟨hx, hb, hr, hml, hown, hts, hlkk, hnm, hKn, hX⟩ := id hC
  obtain ⟨hcl, hini⟩ := mOK_at (j := 113) (M := mr_113) rfl
  rw [hcl] at hown
  dsimp only at hH hlv ⊢
  have hcc : H[base + q]? = some (arrV (cA q) n (fun j => .int (I q j))) := (hH.2.2 q _ h0).1
  have hA : ArrOfT s (cA q) .int := (hH.2.2 q _ h0).2.1
  have hX1 : s.vm.findClass "[I" = some (cA q) := (hH.2.2 q _ h0).2.2.1 rfl
  have hqlt : q < sh.length := (List.getElem?_eq_some_iff.mp h0).1
  have hsz : (arrV (cA q) n (fun j => .int (I q j))).slots.size = n := arrV_size _ _ _
  obtain ⟨c0, t0', f1, f2, f3⟩ := Cond.castable_spec (hts _ cw_cast)
  cases hX1.symm.trans f1
  have hc2 := trv_cats (base := base) (xa := xa) hcat
  intro T hT X
  have hcellT : T.heap[base + q]? = some (arrV (cA q) n (fun j => .int (I q j))) := by rw [hT]; exact hcc
  obtain ⟨-, kA, hkA, comp, hkind⟩ := State.isArrayOf_alike X.warmed.alike (hA 0 (fun _ => .null))
  obtain ⟨-, kS, hkS, compS, hkindS⟩ := hA 0 (fun _ => .null)
  obtain ⟨vm', X', st'⟩ := X.cloneArray hx hown (hts _ cw_link) (hts _ cw_same) (hts _ cw_nat) (hts _ cw_inst) (hts _ cw_sel) (a := base + q) (cell := arrV (cA q) n (fun j => .int (I q j))) hcellT (fun k h => by cases h) (fun h => by cases h) hX1 f2 f3
    (fun i v hv => by
      have hk' : T.vm.classes[cA q]? = some kA := hkA
      have hf : fits .int v = true := va_fit (fun i _ => rfl) i v hv
      show T.fitsSlot (cA q) VmData.none i v = true
      simpa [State.fitsSlot, State.slotType?, hk', hkind] using hf)
    (g := F0 m 7 lsA ((Value.ref q :: st).map (trv base xa))) rfl (by rw [hml]; exact hlv.1) rfl (by rw [hb]; show decode prog_21_method_123_code 7 = .ok (.invokevirtual 316, 3); decide +kernel) (by omega) (by show 2 * 0 + _ + 14 ≤ _; omega) (by omega) (by rw [hsz]; omega) (hloader := Vm.clonesLoader_of_array hkS hkindS)
  rw [hsz] at X'
  have hsz0 : H.size = base + sh.length := hH.1
  generalize hH1 : H.push (arrV (cA q) n (fun j => .int (I q j))) = H1
  have z1 : H1.size = H.size + 1 := by rw [← hH1, Array.size_push]
  have e1 : H1[H.size]? = some (arrV (cA q) n (fun j => .int (I q j))) := by rw [← hH1, Array.getElem?_push_size]
  have o1 : ∀ z : Nat, z < H.size → H1[z]? = H[z]? := fun z hz => by rw [← hH1, Array.getElem?_push, if_neg (Nat.ne_of_lt hz)]
  have hnew : HR D base (fun a => if a = sh.length then cA q else cA a) (sh ++ [.inl (.int, n)], clI I q sh.length, L, Rr) s s.heap H1 := by
    refine HR_ext hH z1 o1 (fun a k ha => if_neg ha) ?_
    show H1[base + sh.length]? = some (arrV (if sh.length = sh.length then cA q else cA sh.length) n _) ∧ ArrOfT s (if sh.length = sh.length then cA q else cA sh.length) .int ∧ arX s (if sh.length = sh.length then cA q else cA sh.length) .int
    rw [if_pos rfl, ← hsz0, e1]
    refine ⟨?_, hA, And.intro (fun _ => hX1) (fun e => by cases e)⟩
    congr 2
    funext j
    show Value.int (I q j) = .int (clI I q sh.length sh.length j)
    unfold clI
    rw [if_pos rfl]
  have kk := K D base xa p L' e R s m args below meth c Z H1 locs (cells + 1) (slots + n) lsA _ hC hfr hlo (by omega) (by omega) hnew hL hlv (fun r w2 H2 locs2 ls2 cA2 c2 s2 pc2 q1 q2 q3 q4 q5 q6 => hret r w2 H2 locs2 ls2 cA2 c2 s2 pc2 q1 q2 q3 (by omega) (by omega) q6)
  dsimp only at kk
  rw [List.map_cons] at kk
  have er : trv base xa (.ref sh.length) = .ref H.size := by
    show Value.ref (base + sh.length) = _
    rw [hsz0]
  rw [er] at kk
  obtain ⟨t, b1, b2⟩ := kk ((T.setVm vm').pushCell (arrV (cA q) n (fun j => .int (I q j)))) (by rw [← hH1, ← hT]; rfl) X'
  refine ⟨t, st' t ?_, b2⟩
  rw [hT]
  exact b1
theorem XW.cst {d mc ms : Nat} {Q : Option Value → mW → Prop} {l : mL} {st : List Value} {w : mW} {q n : Nat} (h0 : w.1[q]? = some (.inl (.int, n))) (K : XW 113 mr_113 none d mc ms Q (13, l, .ref q :: st, w)) : XW 113 mr_113 none d mc ms Q (10, l, .ref q :: st, w) := by
  intro D base xa p L' e R s m args below meth c Z H locs cells slots lsA cA hC hfr hlo hce hsl hH hL hlv hret
  obtain ⟨hx, hb, hr, hml, hown, hts, hlkk, hnm, hKn, hX⟩ := id hC
  obtain ⟨hcl, hini⟩ := mOK_at (j := 113) (M := mr_113) rfl
  rw [hcl] at hown
  dsimp only at hH hlv ⊢
  have hcc := (hH.2.2 q _ h0).1
  have hX1 : s.vm.findClass "[I" = some (cA q) := (hH.2.2 q _ h0).2.2.1 rfl
  intro T hT X
  obtain ⟨vm', X', st'⟩ := X.checkcastYes hx hown (hts _ cw_cls) (a := base + q) (by rw [hT]; exact hcc) rfl hX1 (va_asg _ _) (g := F0 m 10 lsA ((Value.ref q :: st).map (trv base xa))) rfl rfl (by rw [hb]; show decode prog_21_method_123_code 10 = .ok (.checkcast 317, 3); decide +kernel)
  obtain ⟨t, a1, b1⟩ := K D base xa p L' e R s m args below meth c Z H locs cells slots lsA cA hC hfr hlo hce hsl hH hL hlv hret (T.setVm vm') hT X'
  exact ⟨t, st' t a1, b1⟩
theorem XW.aas {d mc ms : Nat} {Q : Option Value → mW → Prop} {l : mL} {st : List Value} {sh : List mE} {I : Nat → Nat → Int32} {L : Nat → Nat → Int64} {Rr : Nat → Nat → Option Nat} {q z n nz : Nat} {i : Int32} (h0 : sh[q]? = some (.inl (.array .int, n))) (h1 : sh[z]? = some (.inl (.int, nz))) (hin : inR i n = true) (K : XW 112 mr_112 none d mc ms Q (62, l, st, (sh, I, L, up2 Rr q i.toNatClampNeg (some z)))) : XW 112 mr_112 none d mc ms Q (61, l, .ref z :: .int i :: .ref q :: st, (sh, I, L, Rr)) := by
  intro D base xa p L' e R s m args below meth c Z H locs cells slots lsA cA hC hfr hlo hce hsl hH hL hlv hret
  obtain ⟨hx, hb, hr, hml, hown, hts, hlkk, hnm, hKn, hX⟩ := id hC
  dsimp only at hH hlv ⊢
  obtain ⟨hc, hA, hX1⟩ := hH.2.2 q _ h0
  obtain ⟨k, comp, k1, k2, k3⟩ := hX1.2 rfl
  obtain ⟨hc2, hA2, hX2⟩ := hH.2.2 z _ h1
  have k4 := hX2.1 rfl
  cases k3.symm.trans k4
  obtain ⟨-, kz, hkz, compz, hkindz⟩ := hA2 0 (fun _ => .null)
  have hr2 : ¬ i < 0 ∧ i.toNatClampNeg < n := by
    unfold inR at hin
    rw [Bool.and_eq_true] at hin
    exact ⟨of_decide_eq_true hin.1, of_decide_eq_true hin.2⟩
  refine W.aast (a := base + q) (v := base + z) (j := i) hx hb hc (fun q h => by cases h) (fun h => by cases h) k1 k2 rfl hkz ⟨hr2.1, by rw [arrV_size]; exact hr2.2⟩ hc2 (fun q h => by cases h) hkz (va_asg _ _) rfl rfl (show decode mr_112.2.2.1 61 = .ok (.aastore, 1) by decide +kernel) fun H1 e1 z1 oq => ?_
  refine K D base xa p L' e R s m args below meth c Z H1 _ cells slots lsA cA hC hfr hlo hce hsl ?_ ?_ hlv hret
  · refine HR_upd hH rfl z1 oq (fun a ha k t => sv_R_ne (fun q => ha q.1)) (fun e2 he2 => ?_)
    cases h0.symm.trans he2
    exact ⟨e1.trans (congrArg some (arr_upd (g := fun j => sv base (sh, I, L, up2 Rr q i.toNatClampNeg (some z)) q j (tk (.array .int))) sv_R_eq (fun j hj => sv_R_ne (fun q => hj q.2)))), hA, hX1⟩
  · intro y hy
    rcases List.mem_append.mp hy with h | h
    · exact hL y h
    · rcases List.mem_singleton.mp h with rfl
      exact Nat.le_add_right _ _
