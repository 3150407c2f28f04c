/-! ===== contracts, calls, returns ===== -/
theorem ao_moved {t : FieldType} {u U : State} {A A' : Array Value} (hvm : u.vm.Alike U.vm) (h : (Cond.arrayOver (.array t)).before A u = true) : (Cond.arrayOver (.array t)).before A' U = true := by
  obtain ⟨comp, c, k, h1, h2, h3, h4, h5⟩ := arrayOverA_spec h
  obtain ⟨k', hk', he⟩ := hvm.2.2 _ _ h3
  have hi : (U.vm.classes.findIdx? fun (x : Class) => match x.kind with | .array component _ => component == comp | _ => false) = some c := by
    rw [hvm.findIdx?_eq _ (fun _ => rfl)]
    exact h2
  have hkind : k'.kind = .array comp (.array t) := by rw [he]; exact h4
  have f1 : U.vm.findClass (FieldType.array t).toString = some comp := by rw [hvm.findClass]; exact h1
  have f2 : U.vm.findClass ("[" ++ (FieldType.array t).toString) = some c := by rw [hvm.findClass]; exact h5
  unfold Cond.before Cond.holds
  simp only [Cond.value]
  rw [f1, Option.bind_some]
  refine (congrArg (fun o : Option Nat => (o.bind (fun c => (U.vm.classes[c]?).map fun (k : Class) => match k.kind with | .array _ ty => decide (ty = FieldType.array t) && decide (U.vm.findClass ("[" ++ (FieldType.array t).toString) = some c) | _ => false) == some true)) hi).trans ?_
  simp [hk', hkind, f2]
theorem wk_warm {w : Cond} (h : wk w = true) {args a' : Array Value} {s U : State} (hW : s.WarmedH U.vm) (hb : w.before args s = true) : w.before a' U = true := by
  unfold wk at h
  split at h
  · next a i x hh => exact va_Nw.use rfl (va_Nw.warmM hW (va_Nw.of rfl hb))
  · exact ao_moved hW.alike hb
  · exact va_Nw.use rfl (va_Nw.warmC hW (va_Nw.of rfl hb))
  · exact word_at hW (good_of_word h) hb
theorem warm_tbl {args : Array Value} {s : State} (hts : ∀ w ∈ lw_tbk, w.before args s = true) : ∀ w ∈ lw_tbk, ∀ (a' : Array Value) (U : State), s.WarmedH U.vm → w.before a' U = true :=
  fun w hw a' U hW => wk_warm (List.mem_filter.mp hw).2 hW (hts w hw)
/-- the words of a method -/
def mOW (M : mMt) : Prop := mcC M ∈ lw_tbk ∧ miC M ∈ lw_tbk ∧ (mvi M = false → msC M ∈ lw_tbk)
theorem mOW_of {n : Nat} {l : List mMt} {ks g1 g2 g3 : List Nat} (e1 : pickW lw_tbl g1 = (List.range n).map (fun k => (l[k]?).map mcC)) (e2 : pickW lw_tbl g2 = (List.range n).map (fun k => (l[k]?).map miC)) (e3 : pickW lw_tbl g3 = ks.map (fun k => (l[k]?).map msC))
    (e4 : (List.range n).all (fun k => ((l[k]?).map mvi).getD true || ks.any (Nat.beq k)) = true) {k : Nat} (hk : k < n) {M : mMt} (hM : l[k]? = some M) : mOW M := by
  have m1 : some (mcC M) ∈ pickW lw_tbl g1 := by
    rw [e1]
    exact List.mem_map.mpr ⟨k, List.mem_range.mpr hk, congrArg (Option.map mcC) hM⟩
  have m2 : some (miC M) ∈ pickW lw_tbl g2 := by
    rw [e2]
    exact List.mem_map.mpr ⟨k, List.mem_range.mpr hk, congrArg (Option.map miC) hM⟩
  refine ⟨tbk_of (pick_mem m1) rfl, tbk_of (pick_mem m2) (by unfold miC; cases M.2.2.2.2.2.1 <;> rfl), fun hv => ?_⟩
  have h4 : (((l[k]?).map mvi).getD true || ks.any (Nat.beq k)) = true := List.all_eq_true.mp e4 k (List.mem_range.mpr hk)
  rw [hM] at h4
  have hv2 : ((some M).map mvi).getD true = false := hv
  rw [hv2, Bool.false_or] at h4
  obtain ⟨j, hj, ej⟩ := List.any_eq_true.mp h4
  have ej : k = j := Nat.eq_of_beq_eq_true ej
  have m3 : some (msC M) ∈ pickW lw_tbl g3 := by
    rw [e3]
    exact List.mem_map.mpr ⟨k, by rw [ej]; exact hj, congrArg (Option.map msC) hM⟩
  exact tbk_of (pick_mem m3) rfl
theorem mOW_at {j : Nat} {M : mMt} (hj : j < 371) (hM : mt j = some M) : mOW M := by
  unfold mt at hM
  obtain ⟨a, ha, hM⟩ := Option.bind_eq_some_iff.mp hM
  have hlt : j % 40 < 40 := Nat.mod_lt _ (by decide)
  have hj2 : j / 40 = 9 → j % 40 < 11 := by omega
  generalize j / 40 = k at ha hj2
  match k, ha with
  | 0, ha => cases ha; exact mOW_of wc_0 wi_0 wv_0 wx_0 hlt hM
  | 1, ha => cases ha; exact mOW_of wc_1 wi_1 wv_1 wx_1 hlt hM
  | 2, ha => cases ha; exact mOW_of wc_2 wi_2 wv_2 wx_2 hlt hM
  | 3, ha => cases ha; exact mOW_of wc_3 wi_3 wv_3 wx_3 hlt hM
  | 4, ha => cases ha; exact mOW_of wc_4 wi_4 wv_4 wx_4 hlt hM
  | 5, ha => cases ha; exact mOW_of wc_5 wi_5 wv_5 wx_5 hlt hM
  | 6, ha => cases ha; exact mOW_of wc_6 wi_6 wv_6 wx_6 hlt hM
  | 7, ha => cases ha; exact mOW_of wc_7 wi_7 wv_7 wx_7 hlt hM
  | 8, ha => cases ha; exact mOW_of wc_8 wi_8 wv_8 wx_8 hlt hM
  | 9, ha => cases ha; exact mOW_of wc_9 wi_9 wv_9 wx_9 (hj2 rfl) hM
  | k + 10, ha => simp [mts] at ha
/-- how many arguments, and how many locals -/
def mON (M : mMt) : Prop := (parseMethodDescriptor M.2.1.desc).map (fun d => d.parameters.length + (bif M.2.2.2.2.2.1 then 0 else 1)) = some M.2.2.2.2.2.2.1 ∧ M.2.2.2.1 ≤ 40 ∧ (M.2.2.2.2.2.1 = false → M.1 < 13)
theorem mON_of {l : List mMt} (e3 : l.all (fun M => decide ((parseMethodDescriptor M.2.1.desc).map (fun d => d.parameters.length + (bif M.2.2.2.2.2.1 then 0 else 1)) = some M.2.2.2.2.2.2.1) && decide (M.2.2.2.1 ≤ 40) && (bif M.2.2.2.2.2.1 then true else decide (M.1 < 13)) && (decide (M.2.2.2.2.2.2.2 = 99) || decide (M.2.2.2.2.2.2.2 = M.1))) = true) : ∀ M ∈ l, mON M := by
  intro M hM
  have h3 := List.all_eq_true.mp e3 M hM
  simp only [Bool.and_eq_true, decide_eq_true_eq] at h3
  refine ⟨h3.1.1.1, h3.1.1.2, fun q => ?_⟩
  have h4 := h3.1.2
  rw [q] at h4
  exact of_decide_eq_true h4
theorem mON_at {j : Nat} {M : mMt} (hM : mt j = some M) : mON M := mts_all (mON_of wd_0) (mON_of wd_1) (mON_of wd_2) (mON_of wd_3) (mON_of wd_4) (mON_of wd_5) (mON_of wd_6) (mON_of wd_7) (mON_of wd_8) (mON_of wd_9) hM
theorem mN_len : mN.length = 16 := rfl
theorem mN_plain : mN.all (fun c => decide (c ≠ "java/lang/invoke/MethodHandle") && decide (c ≠ "java/lang/invoke/VarHandle")) = true := by decide +kernel
theorem ini_in : ∀ c ∈ mN, Cond.initialized c ∈ lw_tbk := by
  intro c hc
  simp only [mN, List.mem_cons, List.not_mem_nil, or_false] at hc
  rcases hc with rfl | rfl | rfl | rfl | rfl | rfl | rfl | rfl | rfl | rfl | rfl | rfl | rfl | rfl | rfl | rfl
  · exact tbk_of nw_0 rfl
  · exact tbk_of nw_1 rfl
  · exact tbk_of nw_2 rfl
  · exact tbk_of nw_3 rfl
  · exact tbk_of nw_4 rfl
  · exact tbk_of nw_5 rfl
  · exact tbk_of nw_6 rfl
  · exact tbk_of nw_7 rfl
  · exact tbk_of nw_8 rfl
  · exact tbk_of nw_9 rfl
  · exact tbk_of nw_10 rfl
  · exact tbk_of nw_11 rfl
  · exact tbk_of nw_12 rfl
  · exact tbk_of nw_13 rfl
  · exact tbk_of nw_14 rfl
  · exact tbk_of nw_15 rfl
theorem cls_in_of {l : List mMt} (e : l.map (fun M => mN[M.1]?) = l.map (fun M => some M.2.1.cls)) : ∀ M ∈ l, M.2.1.cls ∈ mN := by
  intro M hM
  exact List.mem_of_getElem? (map_at e hM)
theorem cls_in {j : Nat} {M : mMt} (hM : mt j = some M) : M.2.1.cls ∈ mN := mts_all (P := fun M => M.2.1.cls ∈ mN) (cls_in_of wn_0) (cls_in_of wn_1) (cls_in_of wn_2) (cls_in_of wn_3) (cls_in_of wn_4) (cls_in_of wn_5) (cls_in_of wn_6) (cls_in_of wn_7) (cls_in_of wn_8) (cls_in_of wn_9) hM
theorem mN_plainN : (mN.take 14).all plainName = true := by decide +kernel
set_option maxRecDepth 100000 in
theorem pf_0 : mt_0.all (fun M => decide (M.1 < 14) || plainFor M.2.1) = true := by decide +kernel
set_option maxRecDepth 100000 in
theorem pf_1 : mt_1.all (fun M => decide (M.1 < 14) || plainFor M.2.1) = true := by decide +kernel
set_option maxRecDepth 100000 in
theorem pf_2 : mt_2.all (fun M => decide (M.1 < 14) || plainFor M.2.1) = true := by decide +kernel
set_option maxRecDepth 100000 in
theorem pf_3 : mt_3.all (fun M => decide (M.1 < 14) || plainFor M.2.1) = true := by decide +kernel
set_option maxRecDepth 100000 in
theorem pf_4 : mt_4.all (fun M => decide (M.1 < 14) || plainFor M.2.1) = true := by decide +kernel
set_option maxRecDepth 100000 in
theorem pf_5 : mt_5.all (fun M => decide (M.1 < 14) || plainFor M.2.1) = true := by decide +kernel
set_option maxRecDepth 100000 in
theorem pf_6 : mt_6.all (fun M => decide (M.1 < 14) || plainFor M.2.1) = true := by decide +kernel
set_option maxRecDepth 100000 in
theorem pf_7 : mt_7.all (fun M => decide (M.1 < 14) || plainFor M.2.1) = true := by decide +kernel
set_option maxRecDepth 100000 in
theorem pf_8 : mt_8.all (fun M => decide (M.1 < 14) || plainFor M.2.1) = true := by decide +kernel
set_option maxRecDepth 100000 in
theorem pf_9 : mt_9.all (fun M => decide (M.1 < 14) || plainFor M.2.1) = true := by decide +kernel
theorem pf_of {l : List mMt} (e : l.map (fun M => mN[M.1]?) = l.map (fun M => some M.2.1.cls)) (h : l.all (fun M => decide (M.1 < 14) || plainFor M.2.1) = true) : ∀ M ∈ l, plainFor M.2.1 = true := by
  intro M hM
  have h1 := List.all_eq_true.mp h M hM
  simp only [Bool.or_eq_true, decide_eq_true_eq] at h1
  rcases h1 with h1 | h1
  · refine plainFor_of_name (List.all_eq_true.mp mN_plainN _ (List.mem_of_getElem? (i := M.1) ?_))
    rw [List.getElem?_take, if_pos h1]
    exact map_at e hM
  · exact h1
theorem plain_at {j : Nat} {M : mMt} (hM : mt j = some M) : plainFor M.2.1 = true := mts_all (P := fun M => plainFor M.2.1 = true) (pf_of wn_0 pf_0) (pf_of wn_1 pf_1) (pf_of wn_2 pf_2) (pf_of wn_3 pf_3) (pf_of wn_4 pf_4) (pf_of wn_5 pf_5) (pf_of wn_6 pf_6) (pf_of wn_7 pf_7) (pf_of wn_8 pf_8) (pf_of wn_9 pf_9) hM
noncomputable def mws (M : mMt) : List Cond := mcC M :: lw_tbk
def rmv (d mc ms : Nat) : Room := { frames := d + 1, cells := mc, slots := ms, locals := 60 * (d + 1) }
/-- CONTRACT of method j: from the world w with the arguments av it returns, with an answer and a world of Q; at most mc cells of ms places come; d frames above its own -/
def Tc (j d mc ms : Nat) (av : List Value) (w : mW) (Q : Option Value → mW → Prop) : Prop := ∀ (M : mMt), mt j = some M → ∀ (l : Launch) (D : va_G) (base xa : Nat) (cA : Nat → ClassId),
  Met l M.2.1 (mws M) (rmv d mc ms) (fun v U => v = (av.map (trv base xa)).toArray ∧ HR D base cA w U U.heap U.heap ∧ KS base D U)
    (fun _ st oc t => ∃ (r : Option Value) (w' : mW) (cA' : Nat → ClassId), Q r w' ∧ oc = .returned (r.map (trv base xa)) ∧ HR D base cA' w' t st.heap t.heap) mc ms (fun q => base ≤ q)
theorem HR_moved {D : va_G} {base : Nat} {cA : Nat → ClassId} {w : mW} {u U : State} {H0 H : Heap} (hvm : u.vm.Alike U.vm) (h : HR D base cA w u H0 H) : HR D base cA w U H0 H := by
  refine ⟨h.1, h.2.1, fun a e he => ?_⟩
  have := h.2.2 a e he
  unfold cellOK at this ⊢
  cases e with
  | inr ci => exact this
  | inl q => exact ⟨this.1, arrOfT_moved hvm this.2.1, this.2.2.moved hvm⟩
theorem lg_sl_len (base xa : Nat) : ∀ av : List Value, (lg_sl (av.map (trv base xa))).length = (lg_sl av).length
  | [] => rfl
  | v :: av => by
    have ih := lg_sl_len base xa av
    unfold lg_sl at ih ⊢
    simp only [List.map_cons, List.flatMap_cons, List.length_append, trv_cat]
    rw [ih]
    split <;> rfl
theorem lv_args_tr (base xa : Nat) : ∀ (i : Nat) (av : List Value), lv_args i (av.map (trv base xa)) = trl base xa (lv_args i av)
  | _, [] => rfl
  | i, v :: av => by
    simp only [List.map_cons, lv_args, trv_cat, lv_args_tr base xa]
    rfl
theorem Tc.of {j d mc ms : Nat} {av : List Value} {w : mW} {Q : Option Value → mW → Prop} (M : mMt) (hM : mt j = some M) (hfit : (lg_sl av).length ≤ M.2.2.2.1) (K : XW j M none d mc ms Q (0, lv_args 0 av, [], w)) : Tc j d mc ms av w Q := by
  intro M' hM' l D base xa cA
  cases hM.symm.trans hM'
  have hcl := cls_in hM
  have hp := List.all_eq_true.mp mN_plain _ hcl
  simp only [Bool.and_eq_true, decide_eq_true_eq] at hp
  refine va_MetF (cc := M.2.2.1) (maxL := M.2.2.2.1) (ret := M.2.2.2.2.1) (plain_at hM) rfl ?_
  intro p e s m args below meth c s₁ B hml hv
  obtain ⟨rfl, hH, hK⟩ := hv
  have hx := B.exec
  have hb := B.bytes
  have hr := B.returns
  have hts0 := atoms_spec (ws := mws M) B.pre
  have hts : ∀ w ∈ lw_tbk, w.before (av.map (trv base xa)).toArray s = true := fun w hw => hts0 w (List.mem_cons_of_mem _ hw)
  have hown : s.vm.findClass M.2.1.cls = some m.cls := findClass_of_methodNamed B.named
  have hlocks := B.notSynchronized
  have hnm : meth.name = M.2.1.name := (name_of_methodNamed B.named B.method).1
  have hl := lv_entry (av.map (trv base xa)) (n := M.2.2.2.1) (by rw [lg_sl_len]; exact hfit)
  rw [lg_entry_eq]
  generalize (lg_sl (av.map (trv base xa)) ++ List.replicate (M.2.2.2.1 - (lg_sl (av.map (trv base xa))).length) Slot.unset).toArray = ls at hl ⊢
  rw [lv_args_tr] at hl
  refine K D base xa p l e _ s m _ below meth c _ s.heap [] 0 0 ls cA ⟨hx, hb, hr, hml, hown, hts, hlocks, fun _ => hnm, hK, fun n f h => by cases h⟩ (Nat.le_refl _) (Nat.le_refl _) (by show 0 + mc ≤ mc; omega) (by show 0 + ms ≤ ms; omega) hH (fun q h => by cases h) hl ?_
  intro r w' H' locs' ls' cA' cells' slots' pc' hQ hH' hL' hc' hs' hro
  refine W.widen (k := mc) (n := ms) (by omega) (by omega) ?_
  have hq : ∀ (o : Outcome) (t : State), o = .returned (r.map (trv base xa)) → t.heap = H' → s.WarmedH t.vm → ∃ (r : Option Value) (w' : mW) (cA' : Nat → ClassId), Q r w' ∧ o = .returned (r.map (trv base xa)) ∧ HR D base cA' w' t s.heap t.heap := by
    intro o t ho ht hW
    refine ⟨r, w', cA', hQ, ho, ?_⟩
    rw [ht]
    exact HR_moved hW.alike hH'
  unfold retOK at hro
  split at hro
  · exact W.vret hx hb (hr.trans hro.1) (fun t ht hW => hq _ t rfl ht hW) hL' hro.2
  · next x =>
    obtain ⟨⟨ty, h1, h2⟩, h3⟩ := hro
    exact W.zret hx hb (hr.trans h1) h2 (fun t ht hW => hq _ t rfl ht hW) hL' h3
  · next x => exact W.lret hx hb (hr.trans hro.1) (fun t ht hW => hq _ t rfl ht hW) hL' hro.2
  · next x =>
    obtain ⟨⟨ty, h1⟩, h3⟩ := hro
    exact W.aret hx hb (hr.trans h1) (Or.inr ⟨_, rfl⟩) (Or.inr ⟨_, rfl⟩) (fun t ht hW => hq _ t rfl ht hW) hL' h3
  · exact absurd hro id
/-- a return: what is left is the answer alone -/
theorem XW.ret {j : Nat} {M : mMt} {X : mX} {d mc ms : Nat} {Q : Option Value → mW → Prop} {pc : Nat} {ls : mL} {r : Option Value} {w : mW} (hr : retOK M r pc) (hQ : Q r w) : XW j M X d mc ms Q (pc, ls, r.toList, w) := by
  intro D base xa p l e R s m args below meth c Z H locs cells slots lsA cA hC hfr hlo hce hsl hH hL hl hret
  exact hret r w H locs lsA cA cells slots pc hQ hH hL (by omega) (by omega) hr
theorem call_on {p : Program} {l : Launch} {e : Env} {R : Room} {s : State} {m : MethodId} {args : Array Value} {below : List Frame} {meth : Method} {c : Code} {H : Heap} {locs : List Loc} {cells slots mc ms pc : Nat} {Q : State → Prop} {ls : Array Slot} {st0 rest : List Value} {Qa : State → Outcome → State → Prop} {free : Addr → Prop}
    (hr : va_Run p l e R s m args below meth c H locs cells slots mc ms (F0 m pc ls st0) rest Qa free)
    (kk : ∀ (v : Option Value) (st₀ t : State) (L : List Loc), st₀.heap = H → (∀ q ∈ L, free q.base) → Qa st₀ (.returned v) t → s.vm.Alike t.vm → W p l e R s m args below meth c t.heap (locs ++ L) (cells + mc) (slots + ms) Q (F0 m (pc + 3) ls (v.toList ++ rest))) : W p l e R s m args below meth c H locs cells slots Q (F0 m pc ls st0) := by
  intro T hT X
  obtain ⟨v, st₀, t, T', L, h0, X', hL, e1, e2, hq, st⟩ := hr T hT X
  obtain ⟨t2, a1, b1⟩ := kk v st₀ t L h0 hL hq (by rw [← e2]; exact X'.warmed.alike) T' e1 X'
  exact ⟨t2, st t2 a1, b1⟩
/-- the kinds of calls -/
def ckd (ins : Instr) (Ma : mMt) (av : List Value) (w : mW) : Prop := match ins with
  | .invokestatic _ => Ma.2.2.2.2.2.1 = true
  | .invokevirtual _ => mvi Ma = false ∧ ∃ q r, av = .ref q :: r ∧ w.1[q]? = some (.inr Ma.1)
  | .invokespecial _ => Ma.2.2.2.2.2.1 = false ∧ Ma.2.2.2.2.2.2.2 < 13 ∧ Ma.2.2.2.2.1 = none ∧ ∃ q r, av = .ref q :: r
  | _ => False
set_option maxHeartbeats 2000000 in
theorem XW.call {j : Nat} {M : mMt} {X : mX} {d mc ms : Nat} {Q : Option Value → mW → Prop} {pc : Nat} {ls : mL} {st : List Value} {w : mW} {pc0 len a b h : Nat} {ins : Instr} {v : Int} {Ma : mMt} {av rest : List Value} {d' mc' ms' : Nat} {Qc : Option Value → mW → Prop}
    (hM : mt j = some M) (he : mcode j pc = some (pc0, ins, len, a, b, v, h)) (hMa : mt a = some Ma) (ha : a < 371) (hb9 : ¬ b = 9) (hk : ckd ins Ma av w) (hst : st = av.reverse ++ rest) (hlen : av.length = Ma.2.2.2.2.2.2.1) (hcat : (rest.map fun v => v.category).sum ≤ 8)
    (T : Tc a d' mc' ms' av w Qc) (hd : d' + 1 ≤ d) (hmc : mc' ≤ mc) (hms : ms' ≤ ms) (K : ∀ r w', Qc r w' → XW j M X d (mc - mc') (ms - ms') Q (pc + 3, ls, r.toList ++ rest, w')) : XW j M X d mc ms Q (pc, ls, st, w) := by
  intro D base xa p l e R s m args below meth c Z H locs cells slots lsA cA hC hfr hlo hce hsl hH hL hl hret
  obtain ⟨hx, hb, hr, hml, hown, hts, hlk, hnm, hKn, hX⟩ := id hC
  obtain ⟨hcl, hini⟩ := mOK_at hM
  rw [hcl] at hown
  obtain ⟨hdc, hln, ho⟩ := row_ok hM he
  obtain ⟨hw1, hw2, hw3⟩ := mOW_at ha hMa
  obtain ⟨hn1, hn2, hn3⟩ := mON_at hMa
  have hMet := T Ma hMa l D base xa cA
  have hyc := cls_in hMa
  have hp := List.all_eq_true.mp mN_plain _ hyc
  simp only [Bool.and_eq_true, decide_eq_true_eq] at hp
  have hmm : mmn a = Ma.2.1 := by unfold mmn; rw [hMa]; rfl
  have hwarm : ∀ w ∈ mws Ma, ∀ (a' : Array Value) (U : State), s.WarmedH U.vm → w.before a' U = true := by
    intro w hw
    rcases List.mem_cons.mp hw with rfl | hw
    · exact warm_tbl hts _ hw1
    · exact warm_tbl hts w hw
  have hblind : FrameBlind (fun v U => v = (av.map (trv base xa)).toArray ∧ HR D base cA w U U.heap U.heap ∧ KS base D U) := by
    intro a0 U g mk q
    obtain ⟨q1, q2, q3⟩ := q
    exact ⟨q1, HR_moved (u := U) (U := U.calling g mk a0) (Vm.Alike.refl U.vm) q2, va_K.moved (u := U) (U := U.calling g mk a0) (Vm.Alike.refl U.vm) q3.1, q3.2.same (U := U.calling g mk a0) rfl (fun _ _ => rfl)⟩
  have hpre : ∀ U : State, U.heap = H → s.WarmedH U.vm → (av.map (trv base xa)).toArray = (av.map (trv base xa)).toArray ∧ HR D base cA w U U.heap U.heap ∧ KS base D U := by
    intro U hU hW
    refine ⟨rfl, ?_, va_K.moved hW.alike hKn.1, hKn.2.warm hW (fun q hq => by rw [hU]; exact hH.2.1 q hq)⟩
    rw [hU]
    have := HR_moved (U := U) hW.alike hH
    exact ⟨this.1, fun _ _ => rfl, this.2.2⟩
  have hroom : (rmv d' mc' ms').frames + 1 ≤ R.frames ∧ 8 + (Ma.2.2.2.1 + 11) + (rmv d' mc' ms').locals ≤ R.locals := by
    refine ⟨by show d' + 1 + 1 ≤ R.frames; omega, ?_⟩
    show 8 + (Ma.2.2.2.1 + 11) + 60 * (d' + 1) ≤ R.locals
    omega
  have hcode : (Cond.code Ma.2.1 Ma.2.2.1 Ma.2.2.2.1 Ma.2.2.2.2.1).before args s = true := hts _ hw1
  have hini2 : (Cond.initialized Ma.2.1.cls).before args s = true := hts _ (ini_in _ hyc)
  have hc2 : ((rest.map (trv base xa)).map fun v => v.category).sum ≤ 8 := by
    rw [List.map_map]
    have : ((fun v => v.category) ∘ trv base xa) = fun v => Value.category v := by
      funext v
      exact trv_cat base xa v
    rw [this]
    exact hcat
  have hmr : 2 * (F0 m pc lsA (st.map (trv base xa))).monitorRoom + ((rest.map (trv base xa)).map fun v => v.category).sum ≤ 8 := lv_room hc2
  have hstk : st.map (trv base xa) = (av.map (trv base xa)).reverse ++ rest.map (trv base xa) := by rw [hst, List.map_append, List.map_reverse]
  have hsz : lsA.size = M.2.2.2.1 := hl.1
  have go : va_Run p l e R s m args below meth c H locs cells slots mc' ms' (F0 m pc lsA (st.map (trv base xa))) (rest.map (trv base xa)) ((fun _ st oc t => ∃ (r : Option Value) (w' : mW) (cA' : Nat → ClassId), Qc r w' ∧ oc = .returned (r.map (trv base xa)) ∧ HR D base cA' w' t st.heap t.heap) (av.map (trv base xa)).toArray) (fun q => base ≤ q) → W p l e R s m args below meth c H locs cells slots Z (F0 m pc lsA (st.map (trv base xa))) := by
    intro hrun
    refine call_on hrun (fun v0 st₀ t L h0 hL2 hq hal => ?_)
    obtain ⟨r, w', cA', hQ, hv, hH2⟩ := hq
    cases hv
    have hH3 : HR D base cA' w' s s.heap t.heap := by
      have := HR_moved (U := s) hal.symm hH2
      exact ⟨this.1, fun q hq => by rw [this.2.1 q hq, h0]; exact hH.2.1 q hq, this.2.2⟩
    have := K r w' hQ D base xa p l e R s m args below meth c Z t.heap (locs ++ L) (cells + mc') (slots + ms') lsA cA' hC hfr hlo (by omega) (by omega) hH3 (fun q hq => by
      rcases List.mem_append.mp hq with h | h
      · exact hL q h
      · exact hL2 q h) hl (fun r w2 H2 locs2 ls2 cA2 c2 s2 pc2 q1 q2 q3 q4 q5 q6 => hret r w2 H2 locs2 ls2 cA2 c2 s2 pc2 q1 q2 q3 (by omega) (by omega) q6)
    have he2 : (Option.map (trv base xa) r).toList ++ rest.map (trv base xa) = (r.toList ++ rest).map (trv base xa) := by cases r <;> rfl
    rw [he2]
    exact this
  have hlen3 : ilen ins = 3 → len = 3 := fun q => by rcases hln with h | h <;> omega
  unfold ckd at hk
  split at hk
  · next i =>
    obtain rfl := hlen3 rfl
    simp only [okL, Bool.and_eq_true, decide_eq_true_eq] at ho
    have hst2 : (Cond.static Ma.2.1).before args s = true := by
      have := hts _ hw2
      unfold miC at this
      rw [hk] at this
      exact this
    have hpar : ∀ sig, parseMethodDescriptor Ma.2.1.desc = some sig → (av.map (trv base xa)).length = sig.parameters.length := by
      intro sig hsig
      rw [hsig, hk] at hn1
      have := Option.some.inj hn1
      simp at this
      rw [List.length_map, hlen, ← this]
    by_cases hb0 : b = 0
    · subst hb0
      have hml2 := mlC_in0 ho.2
      rw [hmm] at hml2
      exact go (va_runS (Ts := lw_tbk) (own := mcn M.1) (As := av.map (trv base xa)) ⟨hx, hb, hml, hown, hts⟩ hMet ⟨⟨rfl, rfl, hroom.1, hroom.2, hwarm, List.mem_cons_self, hcode, hini2, ⟨hp.1, hp.2⟩, hpar, hts _ hml2⟩, hst2⟩ ⟨hblind, hpre⟩ rfl rfl hsz hstk hmr hdc ⟨by omega, by omega⟩)
    · have hml2 := mlC_in1 ho.2 hb0
      rw [hmm] at hml2
      exact go (va_runSN (Ts := lw_tbk) (own := mcn M.1) (host := "PointsHome") (As := av.map (trv base xa)) ⟨hx, hb, hml, hown, hts⟩ hMet ⟨⟨⟨rfl, rfl, hroom.1, hroom.2, hwarm, List.mem_cons_self⟩, hcode, hini2, ⟨hp.1, hp.2⟩, hpar, hts _ hml2⟩, hst2, trivial⟩ ⟨hblind, hpre⟩ rfl rfl hsz hstk hmr hdc ⟨by omega, by omega⟩)
  · next i =>
    obtain rfl := hlen3 rfl
    simp only [okL, Bool.and_eq_true, decide_eq_true_eq] at ho
    obtain ⟨hv, q, r, rfl, hq⟩ := hk
    have hstc : Ma.2.2.2.2.2.1 = false := by
      unfold mvi at hv
      simp only [Bool.or_eq_false_iff] at hv
      exact hv.1
    have hin2 : (Cond.instanceMethod Ma.2.1).before args s = true := by
      have := hts _ hw2
      unfold miC at this
      rw [hstc] at this
      exact this
    have hsel : (Cond.selects Ma.2.1.cls Ma.2.1 Ma.2.1).before args s = true := hts _ (hw3 hv)
    have hpar : ∀ sig, parseMethodDescriptor Ma.2.1.desc = some sig → (r.map (trv base xa)).length = sig.parameters.length := by
      intro sig hsig
      rw [hsig, hstc] at hn1
      have := Option.some.inj hn1
      simp at this hlen
      rw [List.length_map]
      omega
    have hrec : ∃ cellB : Cell, H[base + q]? = some cellB ∧ cellB.vm.isStatics = false ∧ s.vm.findClass Ma.2.1.cls = some cellB.cls := by
      have hc := hH.2.2 q _ hq
      obtain ⟨cell, g1, g2, g3, -⟩ := hc
      have hlt := hn3 hstc
      obtain ⟨cq, hcq⟩ : ∃ cq, mF[Ma.1]? = some cq := ⟨mF[Ma.1]'(by simpa [mF] using hlt), List.getElem?_eq_getElem _⟩
      refine ⟨cell, g1, by rw [g3]; rfl, ?_⟩
      rw [g2, (mOK_at hMa).1, mcn_at hcq]
      exact (hKn.1.1 Ma.1 _ (mcv_at hcq)).2.1
    have hstk2 : st.map (trv base xa) = (r.map (trv base xa)).reverse ++ Value.ref (base + q) :: rest.map (trv base xa) := by
      rw [hstk, List.map_cons, List.reverse_cons, List.append_assoc]
      rfl
    by_cases hb0 : b = 0
    · subst hb0
      have hml2 := mlC_in0 ho.2
      rw [hmm] at hml2
      exact go (va_runV (Ts := lw_tbk) (own := mcn M.1) (C := Ma.2.1.cls) (As := r.map (trv base xa)) ⟨hx, hb, hml, hown, hts⟩ hMet ⟨⟨rfl, rfl, hroom.1, hroom.2, hwarm, List.mem_cons_self, hcode, hini2, ⟨hp.1, hp.2⟩, hpar, hts _ hml2⟩, hin2, hsel⟩ ⟨hblind, hrec, hpre⟩ rfl rfl hsz hstk2 hmr hdc ⟨by omega, by omega⟩)
    · have hml2 := mlC_in1 ho.2 hb0
      rw [hmm] at hml2
      exact go (va_runVN (Ts := lw_tbk) (own := mcn M.1) (host := "PointsHome") (C := Ma.2.1.cls) (As := r.map (trv base xa)) ⟨hx, hb, hml, hown, hts⟩ hMet ⟨⟨⟨rfl, rfl, hroom.1, hroom.2, hwarm, List.mem_cons_self⟩, hcode, hini2, ⟨hp.1, hp.2⟩, hpar, hts _ hml2⟩, hin2, hsel⟩ ⟨hblind, hrec, hpre⟩ rfl rfl hsz hstk2 hmr hdc ⟨by omega, by omega⟩)
  · next i =>
    obtain rfl := hlen3 rfl
    unfold okL at ho
    dsimp only at ho
    rw [if_neg hb9] at ho
    have ho := of_decide_eq_true ho
    obtain ⟨hstc, hin13, hret0, q, r, rfl⟩ := hk
    have hin2 : (Cond.instanceMethod Ma.2.1).before args s = true := by
      have := hts _ hw2
      unfold miC at this
      rw [hstc] at this
      exact this
    have hnm2 : Ma.2.1.name = "<init>" := ((mOK_at hMa).2 _ rfl hin13).1
    have hpar : ∀ sig, parseMethodDescriptor Ma.2.1.desc = some sig → (r.map (trv base xa)).length = sig.parameters.length := by
      intro sig hsig
      rw [hsig, hstc] at hn1
      have := Option.some.inj hn1
      simp at this hlen
      rw [List.length_map]
      omega
    have hstk2 : st.map (trv base xa) = (r.map (trv base xa)).reverse ++ Value.ref (base + q) :: rest.map (trv base xa) := by
      rw [hstk, List.map_cons, List.reverse_cons, List.append_assoc]
      rfl
    rw [hret0] at hcode
    have hcw : Cond.code Ma.2.1 Ma.2.2.1 Ma.2.2.2.1 none ∈ mws Ma := by
      have : mcC Ma = Cond.code Ma.2.1 Ma.2.2.1 Ma.2.2.2.1 none := by unfold mcC; rw [hret0]
      rw [← this]
      exact List.mem_cons_self
    by_cases hb0 : b = 0
    · subst hb0
      have hml2 := mlC_in0 ho
      rw [hmm] at hml2
      exact go (va_runI (Ts := lw_tbk) (own := mcn M.1) (As := r.map (trv base xa)) ⟨hx, hb, hml, hown, hts⟩ hMet ⟨⟨rfl, rfl, hroom.1, hroom.2, hwarm, hcw, hcode, hini2, ⟨hp.1, hp.2⟩, hpar, hts _ hml2⟩, hnm2, hin2⟩ ⟨hblind, hpre⟩ rfl rfl hsz hstk2 hmr hdc ⟨by omega, by omega⟩)
    · have hml2 := mlC_in1 ho hb0
      rw [hmm] at hml2
      exact go (va_runIN (Ts := lw_tbk) (own := mcn M.1) (host := "PointsHome") (As := r.map (trv base xa)) ⟨hx, hb, hml, hown, hts⟩ hMet ⟨⟨⟨rfl, rfl, hroom.1, hroom.2, hwarm, hcw⟩, hcode, hini2, ⟨hp.1, hp.2⟩, hpar, hts _ hml2⟩, hnm2, hin2⟩ ⟨hblind, hpre⟩ rfl rfl hsz hstk2 hmr hdc ⟨by omega, by omega⟩)
  · exact absurd hk id
