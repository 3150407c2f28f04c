/-! ===== the table of names (longs): getstatic, iload 1, laload as one step ===== -/
set_option maxRecDepth 100000 in
theorem sn_lN : Cond.fieldLink "PointsHomeModel" 388 "PointsHomeModel" "NAMES" "[J" ∈ lw_tbk := tbk_of (List.mem_of_getElem? (i := 2308) (by decide +kernel)) rfl
theorem XW.nam {d mc ms : Nat} {Q : Option Value → mW → Prop} {l : mL} {st : List Value} {w : mW} {x : Int32} (hx1 : lkp l 1 = some (.int x)) (hin : inR x 10 = true) (K : XW 290 mr_290 none d mc ms Q (14, l, .long (fNAM x.toNatClampNeg) :: st, w)) : XW 290 mr_290 none d mc ms Q (9, l, st, w) := by
  intro D base xa p L e R s m args below meth c Z H locs cells slots lsA cA hC hfr hlo hce hsl hH hL hlv hret
  obtain ⟨hx, hb, hr, hml, hown, hts, hlkk, hnm, hKn, hX⟩ := id hC
  obtain ⟨hcl, hini⟩ := mOK_at (j := 290) (M := mr_290) rfl
  rw [hcl] at hown
  obtain ⟨t, ht, hZ, hT⟩ := hKn.2.2.2.1
  obtain ⟨cf, kf, fi, fd, a, cell, h1, h2, h3, h4, h5, h6, h7, h8⟩ := hZ
  dsimp only at hH hlv ⊢
  refine W.gets hx hb hown (hts _ sn_lN) h1 h2 h3 h4 (by rw [hH.2.1 a (Nat.lt_of_not_le h8)]; exact h5) (fun e => by rw [e] at h6; cases h6) h7 rfl (show decode _ 9 = .ok (.getstatic 388, 3) by decide +kernel) ?_
  refine lv_iload_n (k := 1) (i := 1) hx hb (show decode _ 12 = .ok (.iload_n 1, 1) by decide +kernel) rfl (lkp_at hlv hx1) ?_
  obtain ⟨cell, g1, g2, g3, g4, g5, g6, g7⟩ := hT
  have hr2 : ¬ x < 0 ∧ x.toNatClampNeg < 10 := by
    unfold inR at hin
    rw [Bool.and_eq_true] at hin
    exact ⟨of_decide_eq_true hin.1, of_decide_eq_true hin.2⟩
  refine W.lald (v := .long (fNAM x.toNatClampNeg)) hx hb (by rw [hH.2.1 t (Nat.lt_of_not_le g7)]; exact g1) g2 g3 (by
    intro q
    rcases q with q | q
    · exact hr2.1 q
    · omega) (by rw [g6 _ hr2.2]) rfl rfl (show decode _ 13 = .ok (.laload, 1) by decide +kernel) ?_
  exact K D base xa p L e R s m args below meth c Z H locs cells slots lsA cA hC hfr hlo hce hsl hH hL hlv hret
def spN (A : aS) : Option (List aS) := match A with
  | ((j, pc, ls, st), fs, B, P, F, G) => bif Nat.beq j 290 && Nat.beq pc 9 then (match alk ls 1 with
    | some (.inl x) => bif inx B F x 10 then some [((j, 14, ls, .inr none :: st), fs, B, P, F, G)] else none
    | _ => none) else none
theorem spN_ok {T : aT} {E : mW → Prop} {md : aM} {Z : aZ} {av : List Value} {I0 : Nat → Nat → Int32} {dd : Nat} {A : aS} {As : List aS} (h : spN A = some As) : Snd T E md Z av I0 dd A As := by
  obtain ⟨⟨j, pc, ls, st⟩, fs, B, P, F, G⟩ := A
  intro rho C hS K
  obtain ⟨⟨j', pc', l, s⟩, gs, w⟩ := C
  obtain ⟨⟨e1, e2, hl, hs⟩, hfs, hB, hP, hF, hG, hw, hI⟩ := hS
  dsimp only at e1 e2 hl hs hfs hB hP hF hG hw hI K ⊢
  subst e1 e2
  unfold spN at h
  dsimp only at h
  obtain ⟨hb, h9⟩ := bif_o h
  clear h
  rw [Bool.and_eq_true] at hb
  have ej := Nat.eq_of_beq_eq_true hb.1
  have ep := Nat.eq_of_beq_eq_true hb.2
  subst ej ep
  split at h9
  · next x hx =>
    obtain ⟨g, h8⟩ := bif_o h9
    cases h8
    obtain ⟨v, hv1, hxn, xi, rfl, hxi⟩ := hl 1 _ (alk_mem hx)
    obtain ⟨k1, k2, k3⟩ := inx_ok hB hF hxn hxi g
    refine XF.tb (e := 14) (l' := l) (st' := .long (fNAM xi.toNatClampNeg) :: s) (fun M' d mc ms Q hM' K' => ?_) (K _ (List.mem_singleton_self _) rho ((290, 14, l, .long (fNAM xi.toNatClampNeg) :: s), gs, w) (agr.refl _ _) ⟨⟨rfl, rfl, hl, ⟨_, rfl⟩, hs⟩, hfs, hB, hP, hF, hG, hw, hI⟩)
    obtain rfl : M' = mr_290 := Option.some.inj (hM'.symm.trans rfl)
    exact XW.nam hv1 k1 K'
  · cases h9
