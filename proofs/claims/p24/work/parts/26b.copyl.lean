/-! ===== System.arraycopy of longs ===== -/
def cpL (L : Nat → Nat → Int64) (q0 q1 sp dp n : Nat) : Nat → Nat → Int64 := fun i j => if i = q1 then va_cpy (L q0) (L q1) sp dp n j else L i j
set_option maxHeartbeats 1000000 in
theorem XW.acpl {j : Nat} {M : mMt} {X : mX} {d mc ms : Nat} {Q : Option Value → mW → Prop} {pc index q0 q1 n0 n1 : Nat} {ls : mL} {r : List Value} {sh : List mE} {I : Nat → Nat → Int32} {L : Nat → Nat → Int64} {Rr : Nat → Nat → Option Nat} {sp dp n : Int32} (hM : mt j = some M) (hd : decode M.2.2.1 pc = .ok (.invokestatic index, 3)) (hlk : Cond.methodLink (mcn M.1) index arraycopyName ∈ lw_tbk) (h0 : sh[q0]? = some (.inl (.long, n0))) (h1 : sh[q1]? = some (.inl (.long, n1))) (a1 : 0 ≤ sp.toInt) (a2 : 0 ≤ dp.toInt) (a3 : 0 ≤ n.toInt) (a4 : sp.toInt + n.toInt ≤ n0) (a5 : dp.toInt + n.toInt ≤ n1) (hcat : (r.map fun v => v.category).sum ≤ 8) (K : XW j M X d mc ms Q (pc + 3, ls, r, (sh, I, cpL L q0 q1 sp.toNatClampNeg dp.toNatClampNeg n.toNatClampNeg, Rr))) : XW j M X d mc ms Q (pc, ls, .int n :: .int dp :: .ref q1 :: .int sp :: .ref q0 :: r, (sh, I, L, Rr)) := by
  intro D base xa p l e R s m args below meth c Z H locs cells slots lsA cA hC hfr hlo hce hsl hH hL hl hret
  obtain ⟨hx, hb, hr, hml, hown, hts, hlkk, hnm, hKn, hX⟩ := id hC
  obtain ⟨hcl, hini⟩ := mOK_at hM
  rw [hcl] at hown
  have hc0 : H[base + q0]? = some (arrV (cA q0) n0 (fun j => .long (L q0 j))) := (hH.2.2 q0 _ h0).1
  have hc1 : H[base + q1]? = some (arrV (cA q1) n1 (fun j => .long (L q1 j))) := (hH.2.2 q1 _ h1).1
  have t0 : ArrOfT s (cA q0) .long := (hH.2.2 q0 _ h0).2.1
  have t1 : ArrOfT s (cA q1) .long := (hH.2.2 q1 _ h1).2.1
  have cl : ∀ z : Int32, z.toNatClampNeg = z.toInt.toNat := fun _ => rfl
  have hc2 : ((r.map (trv base xa)).map fun v => v.category).sum ≤ 8 := by
    rw [List.map_map]
    have : ((fun v => v.category) ∘ trv base xa) = fun v => Value.category v := by
      funext v
      exact trv_cat base xa v
    rw [this]
    exact hcat
  intro T hT X0
  obtain ⟨-, k0, hk0, cm0, hkk0⟩ := t0 n0 (fun j => .long (L q0 j))
  obtain ⟨-, k1, hk1, cm1, hkk1⟩ := t1 n1 (fun j => .long (L q1 j))
  obtain ⟨vm', X', step⟩ := X0.arraycopy hx hown (hts _ hlk) (hts _ ac_nat) (hts _ ac_stat) (hts _ ac_init) (src := base + q0) (dst := base + q1) (cs := arrV (cA q0) n0 (fun j => .long (L q0 j))) (cd := arrV (cA q1) n1 (fun j => .long (L q1 j))) (srcPos := sp) (destPos := dp) (n := n) (by rw [hT]; exact hc0) (by rw [hT]; exact hc1)
    (fun _ h => by cases h) (fun _ h => by cases h) (fun h => by cases h) (fun h => by cases h) hk0 hk1 hkk0 hkk1 (by decide) (nneg a1) (nneg a2) (nneg a3)
    (by rw [arrV_size]; omega) (by rw [arrV_size]; omega)
    (fun vm₁ _ i hi => by
      have e : (arrV (cA q0) n0 (fun j => .long (L q0 j))).slots.getD (sp.toNatClampNeg + i) .null = .long (L q0 (sp.toNatClampNeg + i)) := by
        rw [Array.getD_eq_getD_getElem?, arrV_read _ _ (by rw [cl] at hi ⊢; omega)]
        rfl
      rw [e]
      exact ⟨rfl, trivial⟩)
    (g := F0 m pc lsA (.int n :: .int dp :: .ref (base + q1) :: .int sp :: .ref (base + q0) :: r.map (trv base xa))) rfl (by rw [hml]; exact hl.1) (rest := r.map (trv base xa)) rfl (by rw [hb]; exact hd) (by omega) (by
      have hmr : 2 * (F0 m pc lsA (.int n :: .int dp :: .ref (base + q1) :: .int sp :: .ref (base + q0) :: r.map (trv base xa))).monitorRoom + ((r.map (trv base xa)).map fun v => v.category).sum ≤ 8 := lv_room hc2
      have hn : nativeFrameWords "java/lang/System" "arraycopy" 5 + 11 ≤ 52 := by decide
      omega)
  have e1 : copied (arrV (cA q0) n0 (fun j => .long (L q0 j))) (arrV (cA q1) n1 (fun j => .long (L q1 j))) sp dp n = arrV (cA q1) n1 (fun j => .long (va_cpy (L q0) (L q1) sp.toNatClampNeg dp.toNatClampNeg n.toNatClampNeg j)) := va_copied (fun z => .long z) (cA q0) (cA q1) (L q0) (L q1) (by rw [cl, cl]; omega)
  rw [e1] at X' step
  have hlt : base + q1 < H.size := (Array.getElem?_eq_some_iff.mp hc1).1
  have hheap : ((T.setVm vm').setCell (base + q1) (arrV (cA q1) n1 (fun j => .long (va_cpy (L q0) (L q1) sp.toNatClampNeg dp.toNatClampNeg n.toNatClampNeg j)))).heap = H.setIfInBounds (base + q1) (arrV (cA q1) n1 (fun j => .long (va_cpy (L q0) (L q1) sp.toNatClampNeg dp.toNatClampNeg n.toNatClampNeg j))) := by rw [← hT]; rfl
  have oq : ∀ z : Nat, z ≠ base + q1 → (H.setIfInBounds (base + q1) (arrV (cA q1) n1 (fun j => .long (va_cpy (L q0) (L q1) sp.toNatClampNeg dp.toNatClampNeg n.toNatClampNeg j))))[z]? = H[z]? := fun z hz => by simp [Array.getElem?_setIfInBounds, Ne.symm hz]
  have hH' : HR D base cA (sh, I, cpL L q0 q1 sp.toNatClampNeg dp.toNatClampNeg n.toNatClampNeg, Rr) s s.heap (H.setIfInBounds (base + q1) (arrV (cA q1) n1 (fun j => .long (va_cpy (L q0) (L q1) sp.toNatClampNeg dp.toNatClampNeg n.toNatClampNeg j)))) := by
    refine HR_upd (q := q1) hH rfl (by simp) oq (fun a ha k t => ?_) (fun e1 he1 => ?_)
    · unfold sv
      dsimp only
      have : cpL L q0 q1 sp.toNatClampNeg dp.toNatClampNeg n.toNatClampNeg a k = L a k := if_neg ha
      rw [this]
    · cases h1.symm.trans he1
      refine ⟨?_, t1, (hH.2.2 q1 _ h1).2.2⟩
      have hg : (H.setIfInBounds (base + q1) (arrV (cA q1) n1 (fun j => .long (va_cpy (L q0) (L q1) sp.toNatClampNeg dp.toNatClampNeg n.toNatClampNeg j))))[base + q1]? = some (arrV (cA q1) n1 (fun j => .long (va_cpy (L q0) (L q1) sp.toNatClampNeg dp.toNatClampNeg n.toNatClampNeg j))) := by simp [Array.getElem?_setIfInBounds, hlt]
      rw [hg]
      congr 2
      funext j
      show Value.long _ = Value.long (cpL L q0 q1 sp.toNatClampNeg dp.toNatClampNeg n.toNatClampNeg q1 j)
      unfold cpL
      rw [if_pos rfl]
  obtain ⟨t, b1, b2⟩ := K D base xa p l e R s m args below meth c Z _ (locs ++ _) cells slots lsA cA hC hfr hlo hce hsl hH' (fun z hz => by
      rcases List.mem_append.mp hz with h | h
      · exact hL z h
      · obtain ⟨y, -, hy⟩ := List.mem_map.mp h
        rw [← hy]
        exact Nat.le_add_right _ _) hl hret _ hheap X'
  exact ⟨t, step t b1, b2⟩
theorem fresh_cpL {sh : List mE} {I : Nat → Nat → Int32} {L : Nat → Nat → Int64} {R : Nat → Nat → Option Nat} {q0 q1 sp dp n : Nat} {e : mE} (h : fresh (sh, I, L, R)) (hq : sh[q1]? = some e) : fresh (sh, I, cpL L q0 q1 sp dp n, R) := by
  intro a ha k
  have hlt : q1 < sh.length := (List.getElem?_eq_some_iff.mp hq).1
  have hne : ¬ a = q1 := by dsimp only at ha; omega
  have := h a ha k
  refine ⟨this.1, ?_, this.2.2⟩
  show (if a = q1 then _ else _) = _
  rw [if_neg hne]
  exact this.2.1
theorem XF.acpl {dd : Nat} {Q : Option Value → mW → Prop} {j pc q0 q1 n0 n1 : Nat} {ls : mL} {r : List Value} {fs : List mFr} {sh : List mE} {I : Nat → Nat → Int32} {L : Nat → Nat → Int64} {Rr : Nat → Nat → Option Nat} {sp dp n : Int32} (hat : acAt j pc) (h0 : sh[q0]? = some (.inl (.long, n0))) (h1 : sh[q1]? = some (.inl (.long, n1))) (a1 : 0 ≤ sp.toInt) (a2 : 0 ≤ dp.toInt) (a3 : 0 ≤ n.toInt) (a4 : sp.toInt + n.toInt ≤ n0) (a5 : dp.toInt + n.toInt ≤ n1) (hcat : (r.map fun v => v.category).sum ≤ 8) (K : XF none dd 0 0 Q (j, pc + 3, ls, r) fs (sh, I, cpL L q0 q1 sp.toNatClampNeg dp.toNatClampNeg n.toNatClampNeg, Rr)) : XF none dd 0 0 Q (j, pc, ls, .int n :: .int dp :: .ref q1 :: .int sp :: .ref q0 :: r) fs (sh, I, L, Rr) := by
  obtain ⟨M, index, hM, hd, hlk⟩ := hat
  cases fs with
  | nil =>
    unfold XF at K ⊢
    intro hf M' hM'
    cases hM.symm.trans hM'
    exact XW.acpl hM hd hlk h0 h1 a1 a2 a3 a4 a5 hcat (K (fresh_cpL hf h1) M hM)
  | cons f fs =>
    unfold XF at K ⊢
    intro hf M' hM'
    cases hM.symm.trans hM'
    exact XW.acpl hM hd hlk h0 h1 a1 a2 a3 a4 a5 hcat (K (fresh_cpL hf h1) M hM)
/-- the step: at these places -/
def spL (tab : List (Nat × Nat)) (T : aT) (A : aS) : Option (List aS) := match A with
  | ((j, pc, ls, st), fs, B, P, F, G) => bif tab.any (fun e => Nat.beq e.1 j && Nat.beq e.2 pc) then (match st with
    | .inl n :: .inl dp :: .inr (some q1) :: .inl sp :: .inr (some q0) :: r => match T.1 q0, T.1 q1 with
      | some (.inl (.long, n0)), some (.inl (.long, n1)) => bif prv B F n && (prv B F dp && (prv B F sp && (prv B F (nsb (nK (n0 : Int)) (nad sp n)) && (prv B F (nsb (nK (n1 : Int)) (nad dp n)) && Nat.ble (catS r) 8)))) then some [((j, pc + 3, ls, r), fs, B, P, F, G)] else none
      | _, _ => none
    | _ => none) else none
theorem spL_ok {T : aT} {E : mW → Prop} {md : aM} {Z : aZ} {av : List Value} {I0 : Nat → Nat → Int32} {dd : Nat} (hE : EOK T.2.2.2.1 E) {tab : List (Nat × Nat)} (htab : ∀ e ∈ tab, acAt e.1 e.2) {A : aS} {As : List aS} (h : spL tab T A = some As) : Snd T E md Z av I0 dd A As := by
  obtain ⟨⟨j, pc, ls, st⟩, fs, B, P, F, G⟩ := A
  intro rho C hS K
  obtain ⟨⟨j', pc', l, s⟩, gs, ⟨sh, I, L, R⟩⟩ := C
  obtain ⟨⟨e1, e2, hl, hs⟩, hfs, hB, hP, hF, hG, hw, hI⟩ := hS
  dsimp only at e1 e2 hl hs hfs hB hP hF hG hI K ⊢
  subst e1 e2
  unfold spL at h
  dsimp only at h
  obtain ⟨hb, h⟩ := bif_o h
  obtain ⟨e, he, hj⟩ := List.any_eq_true.mp hb
  rw [Bool.and_eq_true] at hj
  have hat : acAt j pc := by
    have := htab e he
    rw [Nat.eq_of_beq_eq_true hj.1, Nat.eq_of_beq_eq_true hj.2] at this
    exact this
  split at h
  · next n dp q1 sp q0 r _ =>
    match s, hs with
    | v1 :: v2 :: v3 :: v4 :: v5 :: s, hs =>
      obtain ⟨hn, ni, rfl, en⟩ := hs.1
      obtain ⟨hdp, di, rfl, ed⟩ := hs.2.1
      obtain rfl : v3 = .ref q1 := hs.2.2.1
      obtain ⟨hsp, si, rfl, es⟩ := hs.2.2.2.1
      obtain rfl : v5 = .ref q0 := hs.2.2.2.2.1
      have hr := hs.2.2.2.2.2
      split at h
      · next n0 n1 t0 t1 =>
        have h0 := hw.1 q0 _ t0
        have h1 := hw.1 q1 _ t1
        obtain ⟨g, h⟩ := bif_o h
        cases h
        simp only [Bool.and_eq_true] at g
        obtain ⟨g1, g2, g3, g4, g5, g9⟩ := g
        have p1 := prv_ok hB hF hn g1
        have p2 := prv_ok hB hF hdp g2
        have p3 := prv_ok hB hF hsp g3
        have p4 := prv_ok hB hF (nb_sb nb_K (nb_ad hsp hn)) g4
        have p5 := prv_ok hB hF (nb_sb nb_K (nb_ad hdp hn)) g5
        rw [fvl_sb, fvl_K, fvl_ad] at p4 p5
        refine XF.acpl hat h0 h1 (by omega) (by omega) (by omega) (by omega) (by omega) (by rw [hr.cats]; exact Nat.le_of_ble_eq_true g9) ?_
        exact K _ (List.mem_singleton_self _) rho ((j, pc + 3, l, s), gs, (sh, I, cpL L q0 q1 si.toNatClampNeg di.toNatClampNeg ni.toNatClampNeg, R)) (agr.refl _ _) ⟨⟨rfl, rfl, hl, hr⟩, hfs, hB, hP, hF, hG, ⟨hw.1, hw.2.1, hw.2.2.1, hE.2 _ _ _ _ _ hw.2.2.2⟩, hI⟩
      · cases h
  · cases h
set_option maxRecDepth 100000 in
theorem al_at0 : acAt 226 134 := ⟨mr_226, 50, rfl, by decide +kernel, tbk_of (List.mem_of_getElem? (i := 1710) (by decide +kernel)) rfl⟩
def alTab : List (Nat × Nat) := [(226, 134)]
theorem alTab_ok : ∀ e ∈ alTab, acAt e.1 e.2 := List.forall_mem_cons.mpr ⟨al_at0, (fun e he => by cases he)⟩
