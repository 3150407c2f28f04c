/-! ===== the String constant's length and letters as steps ===== -/
theorem trv_cats {base xa : Nat} {st : List Value} {n : Nat} (h : (st.map fun v => v.category).sum ≤ n) : ((st.map (trv base xa)).map fun v => v.category).sum ≤ n := by
  rw [List.map_map]
  have : ((fun v => v.category) ∘ trv base xa) = fun v => Value.category v := by
    funext v
    exact trv_cat base xa v
  rw [this]
  exact h
theorem XW.slen {j : Nat} {M : mMt} {d mc ms : Nat} {Q : Option Value → mW → Prop} {pc : Nat} {l : mL} {st : List Value} {w : mW} (hM : mt j = some M) (hcl : mcn M.1 = "PointsHome$Tape") (hd1 : decode M.2.2.1 pc = .ok (.ldc 87, 2)) (hd2 : decode M.2.2.1 (pc + 2) = .ok (.invokevirtual 89, 3)) (hd : 2 ≤ d) (hcat : (st.map fun v => v.category).sum ≤ 8) (K : XW j M none d mc ms Q (pc + 2 + 3, l, .int 97 :: st, w)) : XW j M none d mc ms Q (pc, l, st, w) := by
  intro D base xa p L e R s m args below meth c Z H locs cells slots lsA cA hC hfr hlo hce hsl hH hL hlv hret
  obtain ⟨hx, hb, hr, hml, hown, hts, hlkk, hnm, hKn, hX⟩ := id hC
  obtain ⟨hc1, hini⟩ := mOK_at hM
  rw [hc1, hcl] at hown
  obtain ⟨aK, aV, hR, hs⟩ := hKn.2.2.2.2
  dsimp only at hH hlv ⊢
  refine va_ldcS hx hb hown hR hd1 ?_
  obtain ⟨cs, o1, o2, o3, o4⟩ := (hs.1.1 0 (by decide)).1
  refine jcV (As := []) (rest := st.map (trv base xa)) (C := "java/lang/String") hx hb hml hown hts hs hH.2.1 hfr hlo (by omega) (by omega) (jm_length (d := 0)) (by omega) (by decide) jw_lenC jw_iniS (by decide) (show _ = some 0 by decide +kernel) jw_lenL jw_lenI jw_lenS ⟨cs, by rw [hH.2.1 aK (Nat.lt_of_not_le o4)]; exact o1, o2, o3⟩ hlv.1 rfl (trv_cats hcat) hd2 hL (fun locs' hL' => ?_)
  exact K D base xa p L e R s m args below meth c Z H locs' cells slots lsA cA hC hfr hlo hce hsl hH hL' hlv hret
theorem XW.sch6 {d mc ms : Nat} {Q : Option Value → mW → Prop} {l : mL} {st : List Value} {w : mW} {i : Int32} (h5 : lkp l 5 = some (.int i)) (hi : inR i 97 = true) (hd : 4 ≤ d) (hcat : (st.map fun v => v.category).sum ≤ 8) (K : XW 96 mr_96 none d mc ms Q (27, l, .int (chW i) :: st, w)) : XW 96 mr_96 none d mc ms Q (20, l, st, w) := by
  intro D base xa p L e R s m args below meth c Z H locs cells slots lsA cA hC hfr hlo hce hsl hH hL hlv hret
  obtain ⟨hx, hb, hr, hml, hown, hts, hlkk, hnm, hKn, hX⟩ := id hC
  obtain ⟨hc1, hini⟩ := mOK_at (j := 96) (M := mr_96) rfl
  rw [hc1] at hown
  obtain ⟨aK, aV, hR, hs⟩ := hKn.2.2.2.2
  dsimp only at hH hlv ⊢
  refine va_ldcS hx hb hown hR (show decode _ 20 = .ok (.ldc 87, 2) by decide +kernel) ?_
  refine lv_iload (i := 5) hx hb (show decode _ 22 = .ok (.iload 5, 2) by decide +kernel) (lkp_at hlv h5) ?_
  obtain ⟨cs, o1, o2, o3, o4⟩ := (hs.1.1 0 (by decide)).1
  refine jcV (As := [.int i]) (rest := st.map (trv base xa)) (C := "java/lang/String") hx hb hml hown hts hs hH.2.1 hfr hlo (by omega) (by omega) (jm_charAt (d := 0) hi) (by omega) (by decide) jw_chrC jw_iniS (by decide) (show _ = some 1 by decide +kernel) jw_chrL jw_chrI jw_chrS ⟨cs, by rw [hH.2.1 aK (Nat.lt_of_not_le o4)]; exact o1, o2, o3⟩ hlv.1 rfl (trv_cats hcat) (show decode _ 24 = .ok (.invokevirtual 94, 3) by decide +kernel) hL (fun locs' hL' => ?_)
  exact K D base xa p L e R s m args below meth c Z H locs' cells slots lsA cA hC hfr hlo hce hsl hH hL' hlv hret
theorem XW.sch7 {d mc ms : Nat} {Q : Option Value → mW → Prop} {l : mL} {st : List Value} {w : mW} {a b : Int32} (h1 : lkp l 1 = some (.int a)) (h4 : lkp l 4 = some (.int b)) (hi : inR (a + b) 97 = true) (hd : 4 ≤ d) (hcat : (st.map fun v => v.category).sum ≤ 8) (K : XW 97 mr_97 none d mc ms Q (32, l, .int (chW (a + b)) :: st, w)) : XW 97 mr_97 none d mc ms Q (23, l, st, w) := by
  intro D base xa p L e R s m args below meth c Z H locs cells slots lsA cA hC hfr hlo hce hsl hH hL hlv hret
  obtain ⟨hx, hb, hr, hml, hown, hts, hlkk, hnm, hKn, hX⟩ := id hC
  obtain ⟨hc1, hini⟩ := mOK_at (j := 97) (M := mr_97) rfl
  rw [hc1] at hown
  obtain ⟨aK, aV, hR, hs⟩ := hKn.2.2.2.2
  dsimp only at hH hlv ⊢
  refine va_ldcS hx hb hown hR (show decode _ 23 = .ok (.ldc 87, 2) by decide +kernel) ?_
  refine lv_iload_n (k := 1) (i := 1) hx hb (show decode _ 25 = .ok (.iload_n 1, 1) by decide +kernel) rfl (lkp_at hlv h1) ?_
  refine lv_iload (i := 4) hx hb (show decode _ 26 = .ok (.iload 4, 2) by decide +kernel) (lkp_at hlv h4) ?_
  refine lv_iadd hx hb (show decode _ 28 = .ok (.iadd, 1) by decide +kernel) ?_
  obtain ⟨cs, o1, o2, o3, o4⟩ := (hs.1.1 0 (by decide)).1
  refine jcV (As := [.int (a + b)]) (rest := st.map (trv base xa)) (C := "java/lang/String") hx hb hml hown hts hs hH.2.1 hfr hlo (by omega) (by omega) (jm_charAt (d := 0) hi) (by omega) (by decide) jw_chrC jw_iniS (by decide) (show _ = some 1 by decide +kernel) jw_chrL jw_chrI jw_chrS ⟨cs, by rw [hH.2.1 aK (Nat.lt_of_not_le o4)]; exact o1, o2, o3⟩ hlv.1 rfl (trv_cats hcat) (show decode _ 29 = .ok (.invokevirtual 94, 3) by decide +kernel) hL (fun locs' hL' => ?_)
  exact K D base xa p L e R s m args below meth c Z H locs' cells slots lsA cA hC hfr hlo hce hsl hH hL' hlv hret
/-- as XF.tb, with frames left -/
theorem XF.tbd {dd : Nat} {Q : Option Value → mW → Prop} {j pc e : Nat} {l l' : mL} {st st' : List Value} {fs : List mFr} {w : mW} (hdd : 41 ≤ dd) (hfs : fs.length < 36) (h : ∀ (M : mMt) (d mc ms : Nat) (Q : Option Value → mW → Prop), 4 ≤ d → mt j = some M → XW j M none d mc ms Q (e, l', st', w) → XW j M none d mc ms Q (pc, l, st, w)) (K : XF none dd 0 0 Q (j, e, l', st') fs w) : XF none dd 0 0 Q (j, pc, l, st) fs w := by
  cases fs with
  | nil =>
    unfold XF at K ⊢
    intro hf M hM
    exact h M _ _ _ _ (by omega) hM (K hf M hM)
  | cons f fs =>
    unfold XF at K ⊢
    intro hf M hM
    rw [List.length_cons] at hfs
    exact h M _ _ _ _ (by omega) hM (K hf M hM)
theorem chW_b : ∀ k, k < 97 → 0 ≤ ((((bytW.getD k 0) &&& 255).toUInt32 % 65536).toInt32).toInt ∧ ((((bytW.getD k 0) &&& 255).toUInt32 % 65536).toInt32).toInt ≤ 127 := by decide +kernel
theorem chW_r {i : Int32} (h : inR i 97 = true) : 0 ≤ (chW i).toInt ∧ (chW i).toInt ≤ 127 := by
  have hr2 : i.toNatClampNeg < 97 := by
    unfold inR at h
    rw [Bool.and_eq_true] at h
    exact of_decide_eq_true h.2
  exact chW_b _ hr2
def spE (dd : Nat) (A : aS) : Option (List aS) := match A with
  | ((j, pc, ls, st), fs, B, P, F, G) => bif Nat.ble 41 dd && (Nat.ble (fs.length + 1) 36 && Nat.ble (catS st) 8) then
    (bif Nat.beq j 96 && Nat.beq pc 12 then some [((96, 17, ls, .inl (nK 97) :: st), fs, B, P, F, G)]
    else bif Nat.beq j 97 && Nat.beq pc 15 then some [((97, 20, ls, .inl (nK 97) :: st), fs, B, P, F, G)]
    else bif Nat.beq j 96 && Nat.beq pc 20 then (match alk ls 5 with
      | some (.inl x) => bif inx B F x 97 then some [((96, 27, ls, .inl (nV B.1) :: st), fs, (B.1 + 1, (B.1, 0, 127) :: B.2), P, F, G)] else none
      | _ => none)
    else bif Nat.beq j 97 && Nat.beq pc 23 then (match alk ls 1, alk ls 4 with
      | some (.inl x), some (.inl y) => bif inx B F (nad x y) 97 then some [((97, 32, ls, .inl (nV B.1) :: st), fs, (B.1 + 1, (B.1, 0, 127) :: B.2), P, F, G)] else none
      | _, _ => none)
    else none) else none
theorem newv {B : aB} {rho : Nat → Int} {v : Int32} {lo hi : Int} (hB : bOK B rho) (h1 : lo ≤ v.toInt) (h2 : v.toInt ≤ hi) : agr B.1 rho (fun x => if x = B.1 then v.toInt else rho x) ∧ bOK (B.1 + 1, (B.1, lo, hi) :: B.2) (fun x => if x = B.1 then v.toInt else rho x) := by
  have hbv := i32b v
  refine ⟨fun x hx => ?_, fun x hx => ?_, fun e he => ?_⟩
  · show (if x = B.1 then v.toInt else rho x) = rho x
    rw [if_neg (by omega)]
  · dsimp only
    split
    · exact hbv
    · exact hB.1 x (by dsimp only at hx; omega)
  · rcases List.mem_cons.mp he with rfl | he
    · dsimp only
      rw [if_pos rfl]
      omega
    · obtain ⟨b1, b2, b3⟩ := hB.2 e he
      dsimp only
      rw [if_neg (by omega)]
      exact ⟨by omega, b2, b3⟩
theorem spE_ok {T : aT} {E : mW → Prop} {md : aM} {Z : aZ} {av : List Value} {I0 : Nat → Nat → Int32} {dd dd' : Nat} (hdd : dd' = dd) {A : aS} {As : List aS} (h : spE dd' A = some As) : Snd T E md Z av I0 dd A As := by
  subst hdd
  obtain ⟨⟨j, pc, ls, st⟩, fs, B, P, F, G⟩ := A
  intro rho C hS K
  obtain ⟨⟨j', pc', l, s⟩, gs, w⟩ := C
  obtain ⟨⟨e1, e2, hl, hs⟩, hfs, hB, hP, hF, hG, hw, hI⟩ := hS
  dsimp only at e1 e2 hl hs hfs hB hP hF hG hw hI K ⊢
  subst e1 e2
  unfold spE at h
  dsimp only at h
  have hb := (bif_o h).1
  replace h := (bif_o h).2
  simp only [Bool.and_eq_true] at hb
  have hd := Nat.le_of_ble_eq_true hb.1
  have hf36 : gs.length < 36 := by rw [← hfs.len]; exact Nat.le_of_ble_eq_true hb.2.1
  have hcat : (s.map fun v => v.category).sum ≤ 8 := by rw [hs.cats]; exact Nat.le_of_ble_eq_true hb.2.2
  have hle : B.1 ≤ B.1 + 1 := by omega
  cases c1 : Nat.beq j 96 && Nat.beq pc 12 with
  | true =>
    rw [c1] at h
    cases h
    rw [Bool.and_eq_true] at c1
    have ej := Nat.eq_of_beq_eq_true c1.1
    have ep := Nat.eq_of_beq_eq_true c1.2
    subst ej ep
    refine XF.tbd (e := 17) (l' := l) (st' := .int 97 :: s) hd hf36 (fun M d mc ms Q hd4 hM K' => ?_) (K _ (List.mem_singleton_self _) rho ((96, 17, l, .int 97 :: s), gs, w) (agr.refl _ _) ⟨⟨rfl, rfl, hl, ⟨nb_K, 97, rfl, by rw [fvl_K]; rfl⟩, hs⟩, hfs, hB, hP, hF, hG, hw, hI⟩)
    obtain rfl : M = mr_96 := Option.some.inj (hM.symm.trans rfl)
    exact XW.slen (j := 96) rfl rfl (by decide +kernel) (by decide +kernel) (by omega) hcat K'
  | false =>
    rw [c1] at h
    simp only [cond_false] at h
    cases c2 : Nat.beq j 97 && Nat.beq pc 15 with
    | true =>
      rw [c2] at h
      cases h
      rw [Bool.and_eq_true] at c2
      have ej := Nat.eq_of_beq_eq_true c2.1
      have ep := Nat.eq_of_beq_eq_true c2.2
      subst ej ep
      refine XF.tbd (e := 20) (l' := l) (st' := .int 97 :: s) hd hf36 (fun M d mc ms Q hd4 hM K' => ?_) (K _ (List.mem_singleton_self _) rho ((97, 20, l, .int 97 :: s), gs, w) (agr.refl _ _) ⟨⟨rfl, rfl, hl, ⟨nb_K, 97, rfl, by rw [fvl_K]; rfl⟩, hs⟩, hfs, hB, hP, hF, hG, hw, hI⟩)
      obtain rfl : M = mr_97 := Option.some.inj (hM.symm.trans rfl)
      exact XW.slen (j := 97) rfl rfl (by decide +kernel) (by decide +kernel) (by omega) hcat K'
    | false =>
      rw [c2] at h
      simp only [cond_false] at h
      cases c3 : Nat.beq j 96 && Nat.beq pc 20 with
      | true =>
        rw [c3] at h
        simp only [cond_true] at h
        rw [Bool.and_eq_true] at c3
        have ej := Nat.eq_of_beq_eq_true c3.1
        have ep := Nat.eq_of_beq_eq_true c3.2
        subst ej ep
        split at h
        · next x hx =>
          obtain ⟨g, h7⟩ := bif_o h
          clear h
          cases h7
          obtain ⟨v, k5, hxn, xi, rfl, hxi⟩ := hl 5 _ (alk_mem hx)
          obtain ⟨i1, i2, i3⟩ := inx_ok hB hF hxn hxi g
          obtain ⟨r1, r2⟩ := chW_r i1
          obtain ⟨ha, hB'⟩ := newv (lo := 0) (hi := 127) hB r1 r2
          refine XF.tbd (e := 27) (l' := l) (st' := .int (chW xi) :: s) hd hf36 (fun M d mc ms Q hd4 hM K' => ?_) (K _ (List.mem_singleton_self _) _ ((96, 27, l, .int (chW xi) :: s), gs, w) ha ⟨⟨rfl, rfl, hl.mono hle ha, ⟨nb_V (by dsimp only; omega), chW xi, rfl, by rw [fvl_V]; show _ = if B.1 = B.1 then _ else _; rw [if_pos rfl]⟩, hs.mono hle ha⟩, hfs.mono hle ha, hB', hP.mono hle ha, hF.mono hle ha, hG.mono hle ha, hw, hI⟩)
          obtain rfl : M = mr_96 := Option.some.inj (hM.symm.trans rfl)
          exact XW.sch6 k5 i1 hd4 hcat K'
        · cases h
      | false =>
        rw [c3] at h
        simp only [cond_false] at h
        cases c4 : Nat.beq j 97 && Nat.beq pc 23 with
        | true =>
          rw [c4] at h
          simp only [cond_true] at h
          rw [Bool.and_eq_true] at c4
          have ej := Nat.eq_of_beq_eq_true c4.1
          have ep := Nat.eq_of_beq_eq_true c4.2
          subst ej ep
          split at h
          · next x y hx hy =>
            obtain ⟨g, h7⟩ := bif_o h
            clear h
            cases h7
            obtain ⟨v, k1, hxn, xi, rfl, hxi⟩ := hl 1 _ (alk_mem hx)
            obtain ⟨v, k4, hyn, yi, rfl, hyi⟩ := hl 4 _ (alk_mem hy)
            have hg := g
            unfold inx at hg
            rw [Bool.and_eq_true] at hg
            have q1 := prv_ok hB hF (nb_ad hxn hyn) hg.1
            have q2 := prv_ok hB hF (nb_sb nb_K (nb_ad hxn hyn)) hg.2
            rw [fvl_sb, fvl_K] at q2
            rw [fvl_ad] at q1 q2
            have ea : (xi + yi).toInt = fvl rho (nad x y) := by
              rw [Int32.toInt_add, fvl_ad, hxi, hyi]
              exact bm32 (by unfold lo32; omega) (by unfold hi32; omega)
            obtain ⟨i1, i2, i3⟩ := inx_ok hB hF (nb_ad hxn hyn) ea g
            obtain ⟨r1, r2⟩ := chW_r i1
            obtain ⟨ha, hB'⟩ := newv (lo := 0) (hi := 127) hB r1 r2
            refine XF.tbd (e := 32) (l' := l) (st' := .int (chW (xi + yi)) :: s) hd hf36 (fun M d mc ms Q hd4 hM K' => ?_) (K _ (List.mem_singleton_self _) _ ((97, 32, l, .int (chW (xi + yi)) :: s), gs, w) ha ⟨⟨rfl, rfl, hl.mono hle ha, ⟨nb_V (by dsimp only; omega), chW (xi + yi), rfl, by rw [fvl_V]; show _ = if B.1 = B.1 then _ else _; rw [if_pos rfl]⟩, hs.mono hle ha⟩, hfs.mono hle ha, hB', hP.mono hle ha, hF.mono hle ha, hG.mono hle ha, hw, hI⟩)
            obtain rfl : M = mr_97 := Option.some.inj (hM.symm.trans rfl)
            exact XW.sch7 k1 k4 i1 hd4 hcat K'
          · cases h
        | false =>
          rw [c4] at h
          cases h
