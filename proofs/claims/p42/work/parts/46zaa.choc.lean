set_option maxRecDepth 100000 in
theorem tc_cho {d : Nat} {sh : List mE} {J : Nat → Nat → Int32} {R : Nat → Nat → Option Nat} {ma mc : Int32} {dd : Int} (hdd : 0 ≤ dd) (hS : stC J ma mc) : ∀ (zz : Nat) {I : Nat → Nat → Int32} {L : Nat → Nat → Int64} (made home men berths : Int32), wOK (mkT vV []) (wE sh R) (sh, I, L, R) → fresh (sh, I, L, R) → (∀ q k, inm mdCx q k = false → I q k = J q k) → dyC J I ma mc dd made home men berths → yyNu (vxC J I dd ma.toInt.toNat) ma.toInt.toNat < (zz : Int) → Tc 186 (d + 2 + zz) 0 0 [.ref 75, .int made, .int home, .int men, .int berths] (sh, I, L, R) (QCh sh R J dd ma.toInt.toNat mc.toInt.toNat I made home) := by
  have z0 : (0 : Int32).toInt = 0 := rfl
  have z9 : (9 : Int32).toInt = 9 := rfl
  intro zz
  obtain ⟨⟨hc2, hc3⟩, ha, hc', hS4⟩ := id hS
  induction zz with
  | zero =>
    intro I L made home men berths hw hf hkp hD hzz
    exfalso
    have := yyNu_pos (x := (vxC J I dd ma.toInt.toNat)) (n := ma.toInt.toNat) (fun k _ => (dyC_c hdd hD k).2.1)
    omega
  | succ zz ihz =>
    intro I L made home men berths hw hf hkp hD hzz
    obtain ⟨d1, d2, d3, d4, d5, d6⟩ := id hD
    have e2 : I 75 2 = ma := (hkp 75 2 rfl).trans hc2
    have hNn := yyNu_pos (x := (vxC J I dd ma.toInt.toNat)) (n := ma.toInt.toNat) (fun k _ => (dyC_c hdd hD k).2.1)
    have h12 : -1 ≤ (I 75 12).toInt ∧ (I 75 12).toInt ≤ 540 := hw.2.2.1 75 12
    have hTn := yyT_nn (W := (vxC J I dd ma.toInt.toNat).1) (n := mc.toInt.toNat) (dyC_w hD)
    have hQl := yyQ_le (B := vRow J 55 76) (M := fun k => vMx dd (vRow J 56 76 k)) (x := (vxC J I dd ma.toInt.toNat)) (n := ma.toInt.toNat) (fun k hk => by
      have hk1 := hS4 k (by omega)
      rw [vRow_of hk1.2.1.1]
      omega) (fun k hk => by
      have e1 := dyC_c hdd hD k
      have e2 := vMx_rng (d := dd) (p := vRow J 56 76 k) hdd (by have := vRow_ge (J := J) (q := 56) (t := 76) (k := k); omega)
      have e3 := e1.2.2 hk
      omega)
    have hQ0 := yyQ_pos (B := vRow J 55 76) (M := fun k => vMx dd (vRow J 56 76 k)) (x := (vxC J I dd ma.toInt.toNat)) (n := ma.toInt.toNat) (fun k _ => by have := vRow_ge (J := J) (q := 55) (t := 76) (k := k); omega) (fun k hk => (dyC_c hdd hD k).2.2 hk)
    have hW := yyW_rng (a := ma.toInt.toNat) (c := mc.toInt.toNat) (B := (vRow J 55 76)) (P := (vRow J 56 76)) (d := dd) (by omega) (fun _ => vRow_ge) _ (vxC J I dd ma.toInt.toNat) (Nat.le_refl _) (fun k _ => (dyC_c hdd hD k).1) (dyC_w hD)
    have hcp := yyW_cap (a := ma.toInt.toNat) (c := mc.toInt.toNat) (B := (vRow J 55 76)) (P := (vRow J 56 76)) (M := fun k => vMx dd (vRow J 56 76 k)) (d := dd) (by omega) (fun _ => vRow_ge) (fun x k _ h => vM_el (P := vRow J 56 76) (d := dd) (fun k => vRow_ge (J := J) (q := 56) (t := 76) (k := k)) x k h) _ (vxC J I dd ma.toInt.toNat) (Nat.le_refl _) (fun k hk => ⟨(dyC_c hdd hD k).1, (dyC_c hdd hD k).2.2 hk⟩)
    have c75 : sh[75]? = some (.inr 9) := hw.1 75 _ rfl
    refine Tc.of mr_186 rfl (show 5 ≤ mr_186.2.2.2.1 by decide) ?_
    refine XW.fam (S' := (1, [(0, .ref 75), (1, .int made), (2, .int home), (3, .int men), (4, .int berths)], [.int home], (sh, I, L, R))) (M := mr_186) rfl (show mcode 186 0 = some (0, .iload_n 2, 1, 0, 0, 0, _) from rfl) (Or.inl ⟨.int home, rfl, rfl⟩) ?_
    refine XW.fam (S' := (2, [(0, .ref 75), (1, .int made), (2, .int home), (3, .int men), (4, .int berths)], [.int men, .int home], (sh, I, L, R))) (M := mr_186) rfl (show mcode 186 1 = some (1, .iload_n 3, 1, 0, 0, 0, _) from rfl) (Or.inl ⟨.int men, rfl, rfl⟩) ?_
    refine XW.fam (S' := (4, [(0, .ref 75), (1, .int made), (2, .int home), (3, .int men), (4, .int berths)], [.int berths, .int men, .int home], (sh, I, L, R))) (M := mr_186) rfl (show mcode 186 2 = some (2, .iload 4, 2, 0, 0, 0, _) from rfl) (Or.inl ⟨.int berths, rfl, rfl⟩) ?_
    refine XW.call (d' := d) (mc' := 0) (ms' := 0) (av := [.int men, .int berths]) (rest := [.int home]) (M := mr_186) (Ma := mr_21) rfl (show mcode 186 4 = some (4, .invokestatic 83, 3, 21, 0, 0, _) from rfl) rfl (by decide) (by decide) rfl rfl rfl (show 1 ≤ 8 by decide) (tc_min) (by omega) (Nat.zero_le _) (Nat.zero_le _) (fun rQ1 wQ1 Q1 => ?_)
    obtain ⟨rfl, rfl⟩ := Q1
    obtain ⟨mn, emn⟩ : ∃ z : Int32, z = (if berths < men then berths else men) := ⟨_, rfl⟩
    rw [← emn]
    have tmn := minI emn
    have tm2 : mn.toInt ≤ men.toInt ∧ mn.toInt ≤ berths.toInt ∧ (mn.toInt = men.toInt ∨ mn.toInt = berths.toInt) := by
      rw [tmn]
      split <;> omega
    have f0 := sumS (a := home) (b := mn) (by omega) (by omega)
    refine XW.fam (S' := (8, [(0, .ref 75), (1, .int made), (2, .int home), (3, .int men), (4, .int berths)], [.int (home + mn)], (sh, I, L, R))) (M := mr_186) rfl (show mcode 186 7 = some (7, .iadd, 1, 0, 0, 0, _) from rfl) (Or.inr (Or.inr (Or.inr (Or.inr (Or.inr (Or.inl ⟨_, rfl, rfl⟩)))))) ?_
    refine XW.fam (S' := (9, [(0, .ref 75), (1, .int made), (2, .int home), (3, .int men), (4, .int berths)], [.ref 75, .int (home + mn)], (sh, I, L, R))) (M := mr_186) rfl (show mcode 186 8 = some (8, .aload_n 0, 1, 0, 0, 0, _) from rfl) (Or.inl ⟨.ref 75, rfl, rfl⟩) ?_
    refine XW.fam (S' := (12, [(0, .ref 75), (1, .int made), (2, .int home), (3, .int men), (4, .int berths)], [.int (I 75 12), .int (home + mn)], (sh, I, L, R))) (M := mr_186) rfl (show mcode 186 9 = some (9, .getfield 89, 3, 9, 12, 0, _) from rfl) (Or.inr (Or.inr (Or.inr (Or.inr (Or.inr (Or.inr (Or.inr (Or.inl ⟨_, _, rfl, fl_ldI c75 (by decide) (by decide), rfl⟩)))))))) ?_
    cases k2 : bcmp .gt (home + mn) (I 75 12) with
    | true =>
      have gk2 : ((I 75 12)).toInt < ((home + mn)).toInt := icT (c := .gt) (a := ((home + mn)).toInt) (b := ((I 75 12)).toInt) rfl rfl k2
      refine XW.fam (S' := (16, [(0, .ref 75), (1, .int made), (2, .int home), (3, .int men), (4, .int berths)], [], (sh, I, L, R))) (M := mr_186) rfl (show mcode 186 12 = some (12, .if_icmp .gt 4, 3, 16, 0, 0, _) from rfl) (Or.inr (Or.inl ⟨16, [], by simp [brn, k2], rfl⟩)) ?_
      refine XW.fam (S' := (17, [(0, .ref 75), (1, .int made), (2, .int home), (3, .int men), (4, .int berths)], [.ref 75], (sh, I, L, R))) (M := mr_186) rfl (show mcode 186 16 = some (16, .aload_n 0, 1, 0, 0, 0, _) from rfl) (Or.inl ⟨.ref 75, rfl, rfl⟩) ?_
      refine XW.call (d' := d) (mc' := 0) (ms' := 0) (av := [.ref 75]) (rest := []) (M := mr_186) (Ma := mr_187) rfl (show mcode 186 17 = some (17, .invokevirtual 99, 3, 187, 0, 0, _) from rfl) rfl (by decide) (by decide) ⟨rfl, 75, _, rfl, c75⟩ rfl rfl (show 0 ≤ 8 by decide) (tc_first (d := d) (ma := ma) (el := (yyEl (vRow J 56 76) dd (vxC J I dd ma.toInt.toNat))) (F := (fun k => 2 * (vRow J 56 76) k * (vxC J I dd ma.toInt.toNat).2.1 k)) hw e2 (by omega) (fun k hk => elC_iff (by omega)) (fun k hk => by rw [(d1 k hk).2]; show 2 * vRow J 56 76 k * (vxC J I dd ma.toInt.toNat).2.1 k = _; rw [show (vxC J I dd ma.toInt.toNat).2.1 k = vMx dd (vRow J 56 76 k) - (I 79 k).toInt from if_pos (by omega)])) (by omega) (Nat.zero_le _) (Nat.zero_le _) (fun rQ3 wQ3 Q3 => ?_)
      obtain ⟨⟨y, rfl, hch⟩, rfl⟩ := Q3
      have hcl := chO_lt hch
      have hA : men.toInt = 0 → yyChs ma.toInt.toNat mc.toInt.toNat (vRow J 56 76) dd (vxC J I dd ma.toInt.toNat) = none ∧ mn.toInt = 0 := by
        intro q
        refine ⟨?_, by omega⟩
        unfold yyChs
        exact if_neg (yySome_no (dyC_w hD) (by omega))
      have hBn : y.toInt < 0 → yyChs ma.toInt.toNat mc.toInt.toNat (vRow J 56 76) dd (vxC J I dd ma.toInt.toNat) = none ∧ berths.toInt = 0 := by
        intro q
        have hn : yyCh (yyEl (vRow J 56 76) dd (vxC J I dd ma.toInt.toNat)) (fun k => 2 * (vRow J 56 76) k * (vxC J I dd ma.toInt.toNat).2.1 k) ma.toInt.toNat = none := by
          rcases hch with ⟨e, -⟩ | ⟨s, e, es⟩
          · exact e
          · exfalso
            omega
        refine ⟨?_, ?_⟩
        · unfold yyChs
          split
          · exact hn
          · rfl
        · rw [d6]
          refine yyQ_zero (fun k hk => ?_)
          have e1 : ¬ 0 < (I 79 k).toInt := fun q => by
            have q2 := (elC_iff (J := J) (dd := dd) hk).mpr q
            rw [yyCh_none hn k hk] at q2
            cases q2
          have e2 := (d1 k (by omega)).1
          have e3 : (vxC J I dd ma.toInt.toNat).2.1 k = vMx dd (vRow J 56 76 k) - (I 79 k).toInt := if_pos hk
          rw [e3]
          omega
      have hM9 : 0 ≤ y.toInt → made.toInt ≤ 8 := by
        intro q
        rcases hch with ⟨e, es⟩ | ⟨s, e, es⟩
        · exfalso
          omega
        · have q1 := yyCh_some e
          have q2 := yyEl_of q1.2
          have := yyNu_one (x := (vxC J I dd ma.toInt.toNat)) (fun k => (dyC_c hdd hD k).2.1) q2.1 q2.2.1 q1.1
          omega
      refine XW.fam (S' := (22, [(5, .int y), (0, .ref 75), (1, .int made), (2, .int home), (3, .int men), (4, .int berths)], [], (sh, I, L, R))) (M := mr_186) rfl (show mcode 186 20 = some (20, .istore 5, 2, 0, 0, 0, _) from rfl) (Or.inr (Or.inr (Or.inr (Or.inr (Or.inr (Or.inr (Or.inl ⟨_, [], _, rfl, rfl, rfl⟩))))))) ?_
      refine XW.fam (S' := (23, [(5, .int y), (0, .ref 75), (1, .int made), (2, .int home), (3, .int men), (4, .int berths)], [.int men], (sh, I, L, R))) (M := mr_186) rfl (show mcode 186 22 = some (22, .iload_n 3, 1, 0, 0, 0, _) from rfl) (Or.inl ⟨.int men, rfl, rfl⟩) ?_
      cases k4 : bcmp .eq men 0 with
      | true =>
        have gk4 : (men).toInt = 0 := icT (c := .eq) (a := (men).toInt) (b := 0) rfl (by decide) k4
        refine XW.fam (S' := (37, [(5, .int y), (0, .ref 75), (1, .int made), (2, .int home), (3, .int men), (4, .int berths)], [], (sh, I, L, R))) (M := mr_186) rfl (show mcode 186 23 = some (23, .ifCond .eq 14, 3, 37, 0, 0, _) from rfl) (Or.inr (Or.inl ⟨37, [], by simp [brn, k4], rfl⟩)) ?_
        refine XW.sub (ls' := [(5, .int y), (4, .int berths), (3, .int men), (2, .int home), (1, .int made), (0, .ref 75)]) (List.forall_mem_cons.mpr ⟨List.mem_of_getElem? (i := 0) rfl, (List.forall_mem_cons.mpr ⟨List.mem_of_getElem? (i := 5) rfl, (List.forall_mem_cons.mpr ⟨List.mem_of_getElem? (i := 4) rfl, (List.forall_mem_cons.mpr ⟨List.mem_of_getElem? (i := 3) rfl, (List.forall_mem_cons.mpr ⟨List.mem_of_getElem? (i := 2) rfl, (List.forall_mem_cons.mpr ⟨List.mem_of_getElem? (i := 1) rfl, (fun _ h => absurd h List.not_mem_nil)⟩)⟩)⟩)⟩)⟩)⟩) ?_
        first
          | exact cho_leaf hw hf (by omega) (by omega) (by have := (hA (by omega)).2; omega) (hA (by omega)).1
          | exact cho_leaf hw hf (by omega) (by omega) (by have := (hBn (by omega)).2; omega) (hBn (by omega)).1
          | exact absurd (hM9 (by omega)) (by omega)
      | false =>
        have gk4 : ¬ ((men).toInt = 0) := icF (c := .eq) (a := (men).toInt) (b := 0) rfl (by decide) k4
        refine XW.fam (S' := (26, [(5, .int y), (0, .ref 75), (1, .int made), (2, .int home), (3, .int men), (4, .int berths)], [], (sh, I, L, R))) (M := mr_186) rfl (show mcode 186 23 = some (23, .ifCond .eq 14, 3, 37, 0, 0, _) from rfl) (Or.inr (Or.inl ⟨26, [], by simp [brn, k4], rfl⟩)) ?_
        refine XW.fam (S' := (28, [(5, .int y), (0, .ref 75), (1, .int made), (2, .int home), (3, .int men), (4, .int berths)], [.int y], (sh, I, L, R))) (M := mr_186) rfl (show mcode 186 26 = some (26, .iload 5, 2, 0, 0, 0, _) from rfl) (Or.inl ⟨.int y, rfl, rfl⟩) ?_
        cases k5 : bcmp .lt y 0 with
        | true =>
          have gk5 : (y).toInt < 0 := icT (c := .lt) (a := (y).toInt) (b := 0) rfl (by decide) k5
          refine XW.fam (S' := (37, [(5, .int y), (0, .ref 75), (1, .int made), (2, .int home), (3, .int men), (4, .int berths)], [], (sh, I, L, R))) (M := mr_186) rfl (show mcode 186 28 = some (28, .ifCond .lt 9, 3, 37, 0, 0, _) from rfl) (Or.inr (Or.inl ⟨37, [], by simp [brn, k5], rfl⟩)) ?_
          refine XW.sub (ls' := [(5, .int y), (4, .int berths), (3, .int men), (2, .int home), (1, .int made), (0, .ref 75)]) (List.forall_mem_cons.mpr ⟨List.mem_of_getElem? (i := 0) rfl, (List.forall_mem_cons.mpr ⟨List.mem_of_getElem? (i := 5) rfl, (List.forall_mem_cons.mpr ⟨List.mem_of_getElem? (i := 4) rfl, (List.forall_mem_cons.mpr ⟨List.mem_of_getElem? (i := 3) rfl, (List.forall_mem_cons.mpr ⟨List.mem_of_getElem? (i := 2) rfl, (List.forall_mem_cons.mpr ⟨List.mem_of_getElem? (i := 1) rfl, (fun _ h => absurd h List.not_mem_nil)⟩)⟩)⟩)⟩)⟩)⟩) ?_
          first
            | exact cho_leaf hw hf (by omega) (by omega) (by have := (hA (by omega)).2; omega) (hA (by omega)).1
            | exact cho_leaf hw hf (by omega) (by omega) (by have := (hBn (by omega)).2; omega) (hBn (by omega)).1
            | exact absurd (hM9 (by omega)) (by omega)
        | false =>
          have gk5 : ¬ ((y).toInt < 0) := icF (c := .lt) (a := (y).toInt) (b := 0) rfl (by decide) k5
          refine XW.fam (S' := (31, [(5, .int y), (0, .ref 75), (1, .int made), (2, .int home), (3, .int men), (4, .int berths)], [], (sh, I, L, R))) (M := mr_186) rfl (show mcode 186 28 = some (28, .ifCond .lt 9, 3, 37, 0, 0, _) from rfl) (Or.inr (Or.inl ⟨31, [], by simp [brn, k5], rfl⟩)) ?_
          refine XW.fam (S' := (32, [(5, .int y), (0, .ref 75), (1, .int made), (2, .int home), (3, .int men), (4, .int berths)], [.int made], (sh, I, L, R))) (M := mr_186) rfl (show mcode 186 31 = some (31, .iload_n 1, 1, 0, 0, 0, _) from rfl) (Or.inl ⟨.int made, rfl, rfl⟩) ?_
          refine XW.fam (S' := (34, [(5, .int y), (0, .ref 75), (1, .int made), (2, .int home), (3, .int men), (4, .int berths)], [.int 9, .int made], (sh, I, L, R))) (M := mr_186) rfl (show mcode 186 32 = some (32, .bipush 9, 2, 0, 0, 0, _) from rfl) (Or.inl ⟨.int 9, rfl, rfl⟩) ?_
          cases k6 : bcmp .lt made 9 with
          | true =>
            have gk6 : (made).toInt < 9 := icT (c := .lt) (a := (made).toInt) (b := 9) rfl (by decide) k6
            refine XW.fam (S' := (62, [(5, .int y), (0, .ref 75), (1, .int made), (2, .int home), (3, .int men), (4, .int berths)], [], (sh, I, L, R))) (M := mr_186) rfl (show mcode 186 34 = some (34, .if_icmp .lt 28, 3, 62, 0, 0, _) from rfl) (Or.inr (Or.inl ⟨62, [], by simp [brn, k6], rfl⟩)) ?_
            refine XW.sub (ls' := [(5, .int y), (4, .int berths), (3, .int men), (2, .int home), (1, .int made), (0, .ref 75)]) (List.forall_mem_cons.mpr ⟨List.mem_of_getElem? (i := 0) rfl, (List.forall_mem_cons.mpr ⟨List.mem_of_getElem? (i := 5) rfl, (List.forall_mem_cons.mpr ⟨List.mem_of_getElem? (i := 4) rfl, (List.forall_mem_cons.mpr ⟨List.mem_of_getElem? (i := 3) rfl, (List.forall_mem_cons.mpr ⟨List.mem_of_getElem? (i := 2) rfl, (List.forall_mem_cons.mpr ⟨List.mem_of_getElem? (i := 1) rfl, (fun _ h => absurd h List.not_mem_nil)⟩)⟩)⟩)⟩)⟩)⟩) ?_
            obtain ⟨s, hs1, hs2⟩ : ∃ s : Nat, yyCh (yyEl (vRow J 56 76) dd (vxC J I dd ma.toInt.toNat)) (fun k => 2 * (vRow J 56 76) k * (vxC J I dd ma.toInt.toNat).2.1 k) ma.toInt.toNat = some s ∧ y.toInt = (s : Int) := by
              rcases hch with ⟨e, es⟩ | ⟨s, e, es⟩
              · exfalso
                omega
              · exact ⟨s, e, es⟩
            have hs : yyChs ma.toInt.toNat mc.toInt.toNat (vRow J 56 76) dd (vxC J I dd ma.toInt.toNat) = some s := by
              unfold yyChs
              rw [if_pos (yySome_yes (dyC_w hD) (by omega))]
              exact hs1
            exact cho_go hdd hS hw hf hkp hD (by omega) ihz hs hs2
          | false =>
            have gk6 : ¬ ((made).toInt < 9) := icF (c := .lt) (a := (made).toInt) (b := 9) rfl (by decide) k6
            refine XW.fam (S' := (37, [(5, .int y), (0, .ref 75), (1, .int made), (2, .int home), (3, .int men), (4, .int berths)], [], (sh, I, L, R))) (M := mr_186) rfl (show mcode 186 34 = some (34, .if_icmp .lt 28, 3, 62, 0, 0, _) from rfl) (Or.inr (Or.inl ⟨37, [], by simp [brn, k6], rfl⟩)) ?_
            refine XW.sub (ls' := [(5, .int y), (4, .int berths), (3, .int men), (2, .int home), (1, .int made), (0, .ref 75)]) (List.forall_mem_cons.mpr ⟨List.mem_of_getElem? (i := 0) rfl, (List.forall_mem_cons.mpr ⟨List.mem_of_getElem? (i := 5) rfl, (List.forall_mem_cons.mpr ⟨List.mem_of_getElem? (i := 4) rfl, (List.forall_mem_cons.mpr ⟨List.mem_of_getElem? (i := 3) rfl, (List.forall_mem_cons.mpr ⟨List.mem_of_getElem? (i := 2) rfl, (List.forall_mem_cons.mpr ⟨List.mem_of_getElem? (i := 1) rfl, (fun _ h => absurd h List.not_mem_nil)⟩)⟩)⟩)⟩)⟩)⟩) ?_
            first
              | exact cho_leaf hw hf (by omega) (by omega) (by have := (hA (by omega)).2; omega) (hA (by omega)).1
              | exact cho_leaf hw hf (by omega) (by omega) (by have := (hBn (by omega)).2; omega) (hBn (by omega)).1
              | exact absurd (hM9 (by omega)) (by omega)
    | false =>
      have gk2 : ¬ (((I 75 12)).toInt < ((home + mn)).toInt) := icF (c := .gt) (a := ((home + mn)).toInt) (b := ((I 75 12)).toInt) rfl rfl k2
      refine XW.fam (S' := (15, [(0, .ref 75), (1, .int made), (2, .int home), (3, .int men), (4, .int berths)], [], (sh, I, L, R))) (M := mr_186) rfl (show mcode 186 12 = some (12, .if_icmp .gt 4, 3, 16, 0, 0, _) from rfl) (Or.inr (Or.inl ⟨15, [], by simp [brn, k2], rfl⟩)) ?_
      refine XW.ret (r := none) ⟨rfl, by decide +kernel⟩ ?_
      refine ⟨rfl, hf, hw, fun _ _ _ => rfl, fun _ _ => rfl, ?_⟩
      show bsC I = _
      exact (bsC_stay (I := I) (by omega) (by omega)).symm
