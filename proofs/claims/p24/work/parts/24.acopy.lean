/-! ===== System.arraycopy of ints ===== -/
def cpI (I : Nat → Nat → Int32) (q0 q1 sp dp n : Nat) : Nat → Nat → Int32 := fun i j => if i = q1 then va_cpy (I q0) (I q1) sp dp n j else I i j
set_option maxRecDepth 100000 in
theorem ac_nat : Cond.native arraycopyName ∈ lw_tbk := tbk_of (List.mem_of_getElem? (i := 1210) (by decide +kernel)) rfl
set_option maxRecDepth 100000 in
theorem ac_stat : Cond.static arraycopyName ∈ lw_tbk := tbk_of (List.mem_of_getElem? (i := 1209) (by decide +kernel)) rfl
set_option maxRecDepth 100000 in
theorem ac_init : Cond.initialized "java/lang/System" ∈ lw_tbk := tbk_of (List.mem_of_getElem? (i := 154) (by decide +kernel)) rfl
theorem nneg {z : Int32} (h : 0 ≤ z.toInt) : ¬ z < 0 := by
  rw [Int32.lt_iff_toInt_lt]
  show ¬ z.toInt < 0
  omega
set_option maxHeartbeats 1000000 in
theorem XW.acp {j : Nat} {M : mMt} {X : mX} {d mc ms : Nat} {Q : Option Value → mW → Prop} {pc index q0 q1 n0 n1 : Nat} {ls : mL} {r : List Value} {sh : List mE} {I : Nat → Nat → Int32} {L : Nat → Nat → Int64} {Rr : Nat → Nat → Option Nat} {sp dp n : Int32} (hM : mt j = some M) (hd : decode M.2.2.1 pc = .ok (.invokestatic index, 3)) (hlk : Cond.methodLink (mcn M.1) index arraycopyName ∈ lw_tbk) (h0 : sh[q0]? = some (.inl (.int, n0))) (h1 : sh[q1]? = some (.inl (.int, n1))) (a1 : 0 ≤ sp.toInt) (a2 : 0 ≤ dp.toInt) (a3 : 0 ≤ n.toInt) (a4 : sp.toInt + n.toInt ≤ n0) (a5 : dp.toInt + n.toInt ≤ n1) (hcat : (r.map fun v => v.category).sum ≤ 8) (K : XW j M X d mc ms Q (pc + 3, ls, r, (sh, cpI I q0 q1 sp.toNatClampNeg dp.toNatClampNeg n.toNatClampNeg, L, Rr))) : XW j M X d mc ms Q (pc, ls, .int n :: .int dp :: .ref q1 :: .int sp :: .ref q0 :: r, (sh, I, L, Rr)) := by
  intro D base xa p l e R s m args below meth c Z H locs cells slots lsA cA hC hfr hlo hce hsl hH hL hl hret
  obtain ⟨hx, hb, hr, hml, hown, hts, hlkk, hnm, hKn, hX⟩ := id hC
  obtain ⟨hcl, hini⟩ := mOK_at hM
  rw [hcl] at hown
  have hc0 : H[base + q0]? = some (arrV (cA q0) n0 (fun j => .int (I q0 j))) := (hH.2.2 q0 _ h0).1
  have hc1 : H[base + q1]? = some (arrV (cA q1) n1 (fun j => .int (I q1 j))) := (hH.2.2 q1 _ h1).1
  have t0 : ArrOfT s (cA q0) .int := (hH.2.2 q0 _ h0).2.1
  have t1 : ArrOfT s (cA q1) .int := (hH.2.2 q1 _ h1).2.1
  have cl : ∀ z : Int32, z.toNatClampNeg = z.toInt.toNat := fun _ => rfl
  have hc2 : ((r.map (trv base xa)).map fun v => v.category).sum ≤ 8 := by
    rw [List.map_map]
    have : ((fun v => v.category) ∘ trv base xa) = fun v => Value.category v := by
      funext v
      exact trv_cat base xa v
    rw [this]
    exact hcat
  intro T hT X0
  obtain ⟨-, k0, hk0, cm0, hkk0⟩ := t0 n0 (fun j => .int (I q0 j))
  obtain ⟨-, k1, hk1, cm1, hkk1⟩ := t1 n1 (fun j => .int (I q1 j))
  obtain ⟨vm', X', step⟩ := X0.arraycopy hx hown (hts _ hlk) (hts _ ac_nat) (hts _ ac_stat) (hts _ ac_init) (src := base + q0) (dst := base + q1) (cs := arrV (cA q0) n0 (fun j => .int (I q0 j))) (cd := arrV (cA q1) n1 (fun j => .int (I q1 j))) (srcPos := sp) (destPos := dp) (n := n) (by rw [hT]; exact hc0) (by rw [hT]; exact hc1)
    (fun _ h => by cases h) (fun _ h => by cases h) (fun h => by cases h) (fun h => by cases h) hk0 hk1 hkk0 hkk1 (by decide) (nneg a1) (nneg a2) (nneg a3)
    (by rw [arrV_size]; omega) (by rw [arrV_size]; omega)
    (fun vm₁ _ i hi => by
      have e : (arrV (cA q0) n0 (fun j => .int (I q0 j))).slots.getD (sp.toNatClampNeg + i) .null = .int (I q0 (sp.toNatClampNeg + i)) := by
        rw [Array.getD_eq_getD_getElem?, arrV_read _ _ (by rw [cl] at hi ⊢; omega)]
        rfl
      rw [e]
      exact ⟨rfl, trivial⟩)
    (g := F0 m pc lsA (.int n :: .int dp :: .ref (base + q1) :: .int sp :: .ref (base + q0) :: r.map (trv base xa))) rfl (by rw [hml]; exact hl.1) (rest := r.map (trv base xa)) rfl (by rw [hb]; exact hd) (by omega) (by
      have hmr : 2 * (F0 m pc lsA (.int n :: .int dp :: .ref (base + q1) :: .int sp :: .ref (base + q0) :: r.map (trv base xa))).monitorRoom + ((r.map (trv base xa)).map fun v => v.category).sum ≤ 8 := lv_room hc2
      have hn : nativeFrameWords "java/lang/System" "arraycopy" 5 + 11 ≤ 52 := by decide
      omega)
  have e1 : copied (arrV (cA q0) n0 (fun j => .int (I q0 j))) (arrV (cA q1) n1 (fun j => .int (I q1 j))) sp dp n = arrV (cA q1) n1 (fun j => .int (va_cpy (I q0) (I q1) sp.toNatClampNeg dp.toNatClampNeg n.toNatClampNeg j)) := va_copied (fun z => .int z) (cA q0) (cA q1) (I q0) (I q1) (by rw [cl, cl]; omega)
  rw [e1] at X' step
  have hlt : base + q1 < H.size := (Array.getElem?_eq_some_iff.mp hc1).1
  have hheap : ((T.setVm vm').setCell (base + q1) (arrV (cA q1) n1 (fun j => .int (va_cpy (I q0) (I q1) sp.toNatClampNeg dp.toNatClampNeg n.toNatClampNeg j)))).heap = H.setIfInBounds (base + q1) (arrV (cA q1) n1 (fun j => .int (va_cpy (I q0) (I q1) sp.toNatClampNeg dp.toNatClampNeg n.toNatClampNeg j))) := by rw [← hT]; rfl
  have oq : ∀ z : Nat, z ≠ base + q1 → (H.setIfInBounds (base + q1) (arrV (cA q1) n1 (fun j => .int (va_cpy (I q0) (I q1) sp.toNatClampNeg dp.toNatClampNeg n.toNatClampNeg j))))[z]? = H[z]? := fun z hz => by simp [Array.getElem?_setIfInBounds, Ne.symm hz]
  have hH' : HR D base cA (sh, cpI I q0 q1 sp.toNatClampNeg dp.toNatClampNeg n.toNatClampNeg, L, Rr) s s.heap (H.setIfInBounds (base + q1) (arrV (cA q1) n1 (fun j => .int (va_cpy (I q0) (I q1) sp.toNatClampNeg dp.toNatClampNeg n.toNatClampNeg j)))) := by
    refine HR_upd (q := q1) hH rfl (by simp) oq (fun a ha k t => ?_) (fun e1 he1 => ?_)
    · unfold sv
      dsimp only
      have : cpI I q0 q1 sp.toNatClampNeg dp.toNatClampNeg n.toNatClampNeg a k = I a k := if_neg ha
      rw [this]
    · cases h1.symm.trans he1
      refine ⟨?_, t1, (hH.2.2 q1 _ h1).2.2⟩
      have hg : (H.setIfInBounds (base + q1) (arrV (cA q1) n1 (fun j => .int (va_cpy (I q0) (I q1) sp.toNatClampNeg dp.toNatClampNeg n.toNatClampNeg j))))[base + q1]? = some (arrV (cA q1) n1 (fun j => .int (va_cpy (I q0) (I q1) sp.toNatClampNeg dp.toNatClampNeg n.toNatClampNeg j))) := by simp [Array.getElem?_setIfInBounds, hlt]
      rw [hg]
      congr 2
      funext j
      show Value.int _ = Value.int (cpI I q0 q1 sp.toNatClampNeg dp.toNatClampNeg n.toNatClampNeg q1 j)
      unfold cpI
      rw [if_pos rfl]
  obtain ⟨t, b1, b2⟩ := K D base xa p l e R s m args below meth c Z _ (locs ++ _) cells slots lsA cA hC hfr hlo hce hsl hH' (fun z hz => by
      rcases List.mem_append.mp hz with h | h
      · exact hL z h
      · obtain ⟨y, -, hy⟩ := List.mem_map.mp h
        rw [← hy]
        exact Nat.le_add_right _ _) hl hret _ hheap X'
  exact ⟨t, step t b1, b2⟩
